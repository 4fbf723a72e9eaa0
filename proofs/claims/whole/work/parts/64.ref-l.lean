set_option maxRecDepth 100000 in
set_option maxHeartbeats 4000000 in
theorem c_X6_next_p (l : Launch) (G : GX) (o : Nat) (a : Nat) (po : Nat) (xt : Nat) (xi : Nat) (xd : Nat) (yt : Nat) (yi : Nat) (yd : Nat) (th : Int) (n : Int) (e : Int) (dn : Int) (at9 : Int) (dp : Int) (kd : Int) (wh : Int) (pl : Int) (base : Int) (sg : Int) (row : Int) (ror : Int) (np : Int) (nw : Int) (nb : Int) (ns : Int) (nrw : Int) (nir : Int) (inf9 : Int) (re : UInt64) (nr : UInt64) (B : Nat → Nat) (t : Nat → Nat) (tx : Nat → Nat) (qi : Nat → Int) (qd : Nat → UInt64) (xi9 : Nat → Int) (opf : Nat → Int) (xd9 : Nat → UInt64) (hn : 0 ≤ n ∧ n ≤ 3000) (hBb : ∀ j, B j < 256) (he : e = 0 ∨ e = 1) (htb : ∀ j, t j < 256) (htxb : ∀ j, tx j < 256) (hdn : 0 ≤ dn ∧ dn ≤ n) (hdp : 0 ≤ dp ∧ dp ≤ 20) (hni : nir = 0 ∨ nir = 1) (hst : ¬ (nxS B n dn) = n) (hpos : 0 < (nxK B n e dn dp)) : CtI l G yX6_next cX6_next 2 (some .int) ({ frames := 6, cells := 0, slots := 0, locals := 148 } : Room) [.ref o] [oMo o th n a e dn at9 dp po kd wh re pl base sg xt row ror xi xd np nw nr nb ns yt nrw nir yi yd inf9, aB G a 3000 B, aB G xt 400 tx, aB G yt 400 t, aI G xi 60 xi9, aF G xd 60 xd9, aI G yi 60 qi, aF G yd 60 qd, aI G po 20 opf] (fun (z9 : Int) (w9 : va_W) => ∃ (at2 : Int), ∃ (dn2 : Int), ∃ (dp2 : Int), ∃ (wh2 : Int), ∃ (pl2 : Int), ∃ (base2 : Int), ∃ (sg2 : Int), ∃ (row2 : Int), ∃ (ror2 : Int), ∃ (np2 : Int), ∃ (nw2 : Int), ∃ (nb2 : Int), ∃ (ns2 : Int), ∃ (nrw2 : Int), ∃ (nir2 : Int), ∃ (inf2 : Int), ∃ (re2 : UInt64), ∃ (nr2 : UInt64), ∃ (t2 : Nat → Nat), ∃ (tx2 : Nat → Nat), ∃ (qi2 : Nat → Int), ∃ (xi2 : Nat → Int), ∃ (op2 : Nat → Int), ∃ (qd2 : Nat → UInt64), ∃ (xd2 : Nat → UInt64), z9 = (nxK B n e dn dp) ∧ w9 = [oMo o 0 n a e dn2 at2 dp2 po (nxK B n e dn dp) wh2 re2 pl2 base2 sg2 xt row2 ror2 xi xd np2 nw2 nr2 nb2 ns2 yt nrw2 nir2 yi yd inf2, aB G a 3000 B, aB G xt 400 tx2, aB G yt 400 t2, aI G xi 60 xi2, aF G xd 60 xd2, aI G yi 60 qi2, aF G yd 60 qd2, aI G po 20 op2] ∧ (dn2 = rtF B n (nxS B n dn) (bA B n (nxS B n dn))) ∧ (pl2 = rtP B n (nxS B n dn) (bA B n (nxS B n dn))) ∧ (wh2 = rtW B n e (nxS B n dn) (bA B n (nxS B n dn)) ∧ re2 = rtR B n e (nxS B n dn) (bA B n (nxS B n dn)) ∧ (TY tx2 sg2 (rtO B n e (nxS B n dn) (bA B n (nxS B n dn))) ∧ sg2 ≤ 400) ∧ row2 = rtL B n (nxS B n dn) (bA B n (nxS B n dn)) ∧ (0 ≤ row2 ∧ row2 ≤ 60) ∧ (∀ j : Int, 0 ≤ j → j < row2 → (rwR (bA B n ((nxS B n dn) + 1)) → xd2 j.toNat = rwD B n ((nxS B n dn) + 4) (bA B n ((nxS B n dn) + 1)) j) ∧ (¬ rwR (bA B n ((nxS B n dn) + 1)) → xi2 j.toNat = rwZ B n ((nxS B n dn) + 4) (bA B n ((nxS B n dn) + 1)) j)) ∧ (0 < row2 → ror2 = tf (rwR (bA B n ((nxS B n dn) + 1)))) ∧ base2 = rtB B n e (nxS B n dn) (bA B n (nxS B n dn)) base) ∧ (dp2 = (if z9 = 9 then dp + 1 else if z9 = 10 then dp - 1 else dp)) ∧ (op2 = (if z9 = 9 then uI opf dp.toNat (nxS B n dn) else opf)) ∧ (∀ j, t2 j < 256) ∧ (nir2 = 0 ∨ nir2 = 1) ∧ (ror2 = 0 ∨ ror2 = 1)) := by
  intro sz
  refine met_of (fun wc sz => va_Qi (qI _) (posW G wc sz) (va_A wc sz)) (by decide) [(0, .ref o)] rfl (Nat.le_of_ble_eq_true rfl) (fun K hK9 hnm X Y => ?_)
  subst hK9
  replace Y : RI K G (some .int) 0 0 _ := Y
  have hSR : dn ≤ (nxS B n dn) ∧ (nxS B n dn) ≤ n := fw_R (B := B) (n := n) _ dn 0 rfl hdn.2
  have hcr := bA_C n (nxS B n dn) hBb
  refine s_aload_n X dX6_next_0 rfl 0 rfl ?_
  refine s_iconst X dX6_next_1 ?_
  refine s_put X dX6_next_2 fl_X6_43 tyX6_ok nmX6 0 rfl rfl (rfl) (rfl) (Nat.le_of_ble_eq_true rfl) [oMo o 0 n a e dn at9 dp po kd wh re pl base sg xt row ror xi xd np nw nr nb ns yt nrw nir yi yd inf9, aB G a 3000 B, aB G xt 400 tx, aB G yt 400 t, aI G xi 60 xi9, aF G xd 60 xd9, aI G yi 60 qi, aF G yd 60 qd, aI G po 20 opf] rfl ?_
  refine s_aload_n X dX6_next_5 rfl 0 rfl ?_
  refine s_callVV X lk_X6_251 [0, 1] [2, 3, 4, 5, 6, 7, 8] (wr := [aB G xt 400 tx, aB G yt 400 t, aI G xi 60 xi9, aF G xd 60 xd9, aI G yi 60 qi, aF G yd 60 qd, aI G po 20 opf]) rfl rfl (by decide) (by decide) (by decide) (c_X6_passBlanks (kl K) G o a po xt xi xd yt yi yd 0 n e dn at9 dp kd wh pl base sg row ror np nw nb ns nrw nir inf9 re nr B (by assumption) (by assumption) (by omega)) rfl rfl dX6_next_6 rfl rfl (Nat.le_of_ble_eq_true rfl) (by decide) (fun w1 h1 => ?_)
  obtain rfl := h1
  show SW K G 2 0 0 9 [(0, .ref o)] [] [aB G xt 400 tx, aB G yt 400 t, aI G xi 60 xi9, aF G xd 60 xd9, aI G yi 60 qi, aF G yd 60 qd, aI G po 20 opf, oMo o 0 n a e dn (nxS B n dn) dp po kd wh re pl base sg xt row ror xi xd np nw nr nb ns yt nrw nir yi yd inf9, aB G a 3000 B]
  refine s_aload_n X dX6_next_9 rfl 0 rfl ?_
  refine s_get X dX6_next_10 fl_X6_102 7 rfl rfl ?_
  refine s_aload_n X dX6_next_13 rfl 0 rfl ?_
  refine s_get X dX6_next_14 fl_X6_40 7 rfl rfl ?_
  refine s_icmp_lt X 70 dX6_next_17 (by decide) (by omega) (fun c17 => ?_) (fun c17 => ?_)
  · refine s_aload_n X dX6_next_70 rfl 0 rfl ?_
    refine s_aload_n X dX6_next_71 rfl 0 rfl ?_
    refine s_get X dX6_next_72 fl_X6_102 7 rfl rfl ?_
    refine s_put X dX6_next_75 fl_X6_135 tyX6_ok nmX6 7 rfl rfl (rfl) (rfl) (Nat.le_of_ble_eq_true rfl) [aB G xt 400 tx, aB G yt 400 t, aI G xi 60 xi9, aF G xd 60 xd9, aI G yi 60 qi, aF G yd 60 qd, aI G po 20 opf, oMo o 0 n a e dn (nxS B n dn) dp po kd wh re pl base sg xt row ror xi xd (nxS B n dn) nw nr nb ns yt nrw nir yi yd inf9, aB G a 3000 B] rfl ?_
    refine s_aload_n X dX6_next_78 rfl 0 rfl ?_
    refine s_iconst X dX6_next_79 ?_
    refine s_put X dX6_next_80 fl_X6_99 tyX6_ok nmX6 7 rfl rfl (rfl) (rfl) (Nat.le_of_ble_eq_true rfl) [aB G xt 400 tx, aB G yt 400 t, aI G xi 60 xi9, aF G xd 60 xd9, aI G yi 60 qi, aF G yd 60 qd, aI G po 20 opf, oMo o 0 n a e dn (nxS B n dn) dp po kd wh re pl base sg xt row ror xi xd (nxS B n dn) nw nr nb 0 yt nrw nir yi yd inf9, aB G a 3000 B] rfl ?_
    refine s_aload_n X dX6_next_83 rfl 0 rfl ?_
    refine s_iconst X dX6_next_84 ?_
    refine s_put X dX6_next_85 fl_X6_81 tyX6_ok nmX6 7 rfl rfl (rfl) (rfl) (Nat.le_of_ble_eq_true rfl) [aB G xt 400 tx, aB G yt 400 t, aI G xi 60 xi9, aF G xd 60 xd9, aI G yi 60 qi, aF G yd 60 qd, aI G po 20 opf, oMo o 0 n a e dn (nxS B n dn) dp po kd wh re pl base sg xt row ror xi xd (nxS B n dn) nw nr 0 0 yt nrw nir yi yd inf9, aB G a 3000 B] rfl ?_
    refine s_aload_n X dX6_next_88 rfl 0 rfl ?_
    refine s_iconst X dX6_next_89 ?_
    refine s_put X dX6_next_90 fl_X6_171 tyX6_ok nmX6 7 rfl rfl (rfl) (rfl) (Nat.le_of_ble_eq_true rfl) [aB G xt 400 tx, aB G yt 400 t, aI G xi 60 xi9, aF G xd 60 xd9, aI G yi 60 qi, aF G yd 60 qd, aI G po 20 opf, oMo o 0 n a e dn (nxS B n dn) dp po kd wh re pl base sg xt row ror xi xd (nxS B n dn) nw nr 0 0 yt nrw nir yi yd 0, aB G a 3000 B] rfl ?_
    refine s_aload_n X dX6_next_93 rfl 0 rfl ?_
    refine s_aload_n X dX6_next_94 rfl 0 rfl ?_
    refine s_aload_n X dX6_next_95 rfl 0 rfl ?_
    refine s_get X dX6_next_96 fl_X6_102 7 rfl rfl ?_
    refine s_callIV X lk_X6_63 [7, 8] [0, 1, 2, 3, 4, 5, 6] (wr := [aB G xt 400 tx, aB G yt 400 t, aI G xi 60 xi9, aF G xd 60 xd9, aI G yi 60 qi, aF G yd 60 qd, aI G po 20 opf]) rfl rfl (by decide) (by decide) (by decide) (c_X6_byteAt (kl K) G o a po xt xi xd yt yi yd 0 n e dn (nxS B n dn) dp kd wh pl base sg row ror (nxS B n dn) nw 0 0 nrw nir 0 re nr B (nxS B n dn) (by assumption) (by assumption) (by omega)) rfl rfl dX6_next_99 rfl rfl (Nat.le_of_ble_eq_true rfl) (by decide) (fun z2 w2 h2 => ?_)
    obtain ⟨rfl, rfl⟩ := h2
    show SW K G 2 0 0 102 [(0, .ref o)] [.int (iI (bA B n (nxS B n dn))), .ref o] [aB G xt 400 tx, aB G yt 400 t, aI G xi 60 xi9, aF G xd 60 xd9, aI G yi 60 qi, aF G yd 60 qd, aI G po 20 opf, oMo o 0 n a e dn (nxS B n dn) dp po kd wh re pl base sg xt row ror xi xd (nxS B n dn) nw nr 0 0 yt nrw nir yi yd 0, aB G a 3000 B]
    have q3 := bA_C n (nxS B n dn) (by assumption : ∀ j, B j < 256)
    refine s_callIV X lk_X6_257 [7, 8, 1, 4, 5] [0, 2, 3, 6] (wr := [aB G xt 400 tx, aI G xi 60 xi9, aF G xd 60 xd9, aI G po 20 opf]) rfl rfl (by decide) (by decide) (by decide) (c_X6_read (kl K) G o a po xt xi xd yt yi yd 0 n e dn (nxS B n dn) dp kd wh pl base sg row ror (nxS B n dn) nw 0 0 nrw nir 0 re nr B t qi qd (by assumption) (by assumption) (by omega) (by omega) (by omega) (by omega) (by assumption) (by omega) (by omega) (by omega) (by omega) ((fw_st hdn hst))) rfl rfl dX6_next_102 rfl rfl (Nat.le_of_ble_eq_true rfl) (by decide) (fun z4 w4 h4 => ?_)
    obtain ⟨at24, np24, nw24, nb24, ns24, nrw24, nir24, inf24, nr24, t24, qi24, qd24, rfl, rfl, f4_0, f4_1, f4_2, f4_3, f4_4⟩ := h4
    show SW K G 2 0 0 105 [(0, .ref o)] [.int (iI (rtN B n e (nxS B n dn) dp (bA B n (nxS B n dn))))] [aB G xt 400 tx, aI G xi 60 xi9, aF G xd 60 xd9, aI G po 20 opf, oMo o 0 n a e dn at24 dp po kd wh re pl base sg xt row ror xi xd np24 nw24 nr24 nb24 ns24 yt nrw24 nir24 yi yd inf24, aB G a 3000 B, aB G yt 400 t24, aI G yi 60 qi24, aF G yd 60 qd24]
    have hk9 : rtN B n e (nxS B n dn) dp (bA B n (nxS B n dn)) = (nxK B n e dn dp) := rfl
    have g0 := f4_0
    have g1 := f4_1
    have g2 := f4_2
    have g3 := f4_3
    have g4 := f4_4
    rw [hk9] at g0 g1 g4
    have hk8 := nxK_R B n e dn dp
    refine s_cast (st' := [.int (iI (nxK B n e dn dp))]) (by rfl) rfl rfl ?_
    refine s_istore_n X dX6_next_105 rfl [(1, .int (iI (nxK B n e dn dp))), (0, .ref o)] (by decide) rfl ?_
    refine s_iload_n X dX6_next_106 rfl 0 rfl ?_
    refine s_if_ne X 112 dX6_next_107 (by decide) (by omega) (fun c107 => ?_) (fun c107 => ?_)
    · refine s_aload_n X dX6_next_112 rfl 1 rfl ?_
      refine s_aload_n X dX6_next_113 rfl 1 rfl ?_
      refine s_get X dX6_next_114 fl_X6_102 4 rfl rfl ?_
      refine s_put X dX6_next_117 fl_X6_57 tyX6_ok nmX6 4 rfl rfl (rfl) (rfl) (Nat.le_of_ble_eq_true rfl) [aB G xt 400 tx, aI G xi 60 xi9, aF G xd 60 xd9, aI G po 20 opf, oMo o 0 n a e at24 at24 dp po kd wh re pl base sg xt row ror xi xd np24 nw24 nr24 nb24 ns24 yt nrw24 nir24 yi yd inf24, aB G a 3000 B, aB G yt 400 t24, aI G yi 60 qi24, aF G yd 60 qd24] rfl ?_
      refine s_aload_n X dX6_next_120 rfl 1 rfl ?_
      refine s_aload_n X dX6_next_121 rfl 1 rfl ?_
      refine s_get X dX6_next_122 fl_X6_135 4 rfl rfl ?_
      refine s_put X dX6_next_125 fl_X6_254 tyX6_ok nmX6 4 rfl rfl (rfl) (rfl) (Nat.le_of_ble_eq_true rfl) [aB G xt 400 tx, aI G xi 60 xi9, aF G xd 60 xd9, aI G po 20 opf, oMo o 0 n a e at24 at24 dp po kd wh re np24 base sg xt row ror xi xd np24 nw24 nr24 nb24 ns24 yt nrw24 nir24 yi yd inf24, aB G a 3000 B, aB G yt 400 t24, aI G yi 60 qi24, aF G yd 60 qd24] rfl ?_
      refine s_iload_n X dX6_next_128 rfl 0 rfl ?_
      refine s_if_le X 137 dX6_next_129 (by decide) (by omega) (fun c129 => ?_) (fun c129 => ?_)
      · exfalso; omega
      · refine s_aload_n X dX6_next_132 rfl 1 rfl ?_
        refine s_iload_n X dX6_next_133 rfl 0 rfl ?_
        refine s_callVV X lk_X6_260 [4, 0, 6, 1, 2, 7, 8, 3] [5] (wr := [aB G a 3000 B]) rfl rfl (by decide) (by decide) (by decide) (c_X6_keep (kl K) G o a po xt xi xd yt yi yd 0 n e at24 at24 dp kd wh np24 base sg row ror np24 nw24 nb24 ns24 nrw24 nir24 inf24 re nr24 t24 tx qi24 qd24 xi9 opf xd9 (nxK B n e dn dp) (by omega) (fun h9 => rg_ns (g1 hpos) h9) (fun h9 => rg_nrw (g1 hpos) h9) (⟨hdp.1, hdp.2, fun h9 => rg_dp h9⟩) (by omega) (g4) (by assumption) (by assumption)) rfl rfl dX6_next_134 rfl rfl (Nat.le_of_ble_eq_true rfl) (by decide) (fun w5 h5 => ?_)
        obtain ⟨wh25, sg25, row25, base25, dp25, re25, tx25, xi25, op25, xd25, rfl, f5_0, f5_1, f5_2, f5_3, f5_4, f5_5, f5_6, f5_7, f5_8, f5_9⟩ := h5
        show SW K G 2 0 0 137 [(1, .int (iI (nxK B n e dn dp))), (0, .ref o)] [] [aB G a 3000 B, oMo o 0 n a e at24 at24 dp25 po (nxK B n e dn dp) wh25 re25 np24 base25 sg25 xt row25 nir24 xi xd np24 nw24 nr24 nb24 ns24 yt nrw24 nir24 yi yd inf24, aB G xt 400 tx25, aB G yt 400 t24, aI G xi 60 xi25, aF G xd 60 xd25, aI G yi 60 qi24, aF G yd 60 qd24, aI G po 20 op25]
        have k0 := f5_0
        have k1 := f5_1
        have k2 := f5_2
        have k3 := f5_3
        have k4 := f5_4
        have k5 := f5_5
        have k6 := f5_6
        have k7 := f5_7
        have k8 := f5_8
        have k9 := f5_9
        refine s_iload_n X dX6_next_137 rfl 0 rfl ?_
        refine s_perm (ws' := [oMo o 0 n a e at24 at24 dp25 po (nxK B n e dn dp) wh25 re25 np24 base25 sg25 xt row25 nir24 xi xd np24 nw24 nr24 nb24 ns24 yt nrw24 nir24 yi yd inf24, aB G a 3000 B, aB G xt 400 tx25, aB G yt 400 t24, aI G xi 60 xi25, aF G xd 60 xd25, aI G yi 60 qi24, aF G yd 60 qd24, aI G po 20 op25]) [1, 0, 2, 3, 4, 5, 6, 7, 8] (by decide) rfl rfl ?_
        refine s_iret X Y dX6_next_138 (rfl) ?_
        refine ⟨at24, at24, dp25, wh25, np24, base25, sg25, row25, nir24, np24, nw24, nb24, ns24, nrw24, nir24, inf24, re25, nr24, t24, tx25, qi24, xi25, op25, qd24, xd25, ?_, rfl, ?_, ?_, ?_, ?_, ?_, ?_, ?_, ?_⟩
        · (first | (exfalso; omega) | (rfl))
        · (first | (exfalso; omega) | (exact (g0 (by omega)).1))
        · (first | (exfalso; omega) | (exact (g0 (by omega)).2))
        · (first | (exfalso; omega) | (exact kp_all hpos (g1 hpos) k0 k1 k2 k3 k4 k5 k6 k7 rfl))
        · (first | (exfalso; omega) | (exact k8))
        · (first | (exfalso; omega) | (exact nx_op k9 (g0 (by omega)).2 rfl))
        · (first | (exfalso; omega) | (exact g2))
        · (first | (exfalso; omega) | (exact g3))
        · (first | (exfalso; omega) | (exact g3))
    · exfalso; omega
  · exfalso; omega
set_option maxRecDepth 100000 in
set_option maxHeartbeats 4000000 in
theorem c_X6_next_n (l : Launch) (G : GX) (o : Nat) (a : Nat) (po : Nat) (xt : Nat) (xi : Nat) (xd : Nat) (yt : Nat) (yi : Nat) (yd : Nat) (th : Int) (n : Int) (e : Int) (dn : Int) (at9 : Int) (dp : Int) (kd : Int) (wh : Int) (pl : Int) (base : Int) (sg : Int) (row : Int) (ror : Int) (np : Int) (nw : Int) (nb : Int) (ns : Int) (nrw : Int) (nir : Int) (inf9 : Int) (re : UInt64) (nr : UInt64) (B : Nat → Nat) (t : Nat → Nat) (tx : Nat → Nat) (qi : Nat → Int) (qd : Nat → UInt64) (xi9 : Nat → Int) (opf : Nat → Int) (xd9 : Nat → UInt64) (hn : 0 ≤ n ∧ n ≤ 3000) (hBb : ∀ j, B j < 256) (he : e = 0 ∨ e = 1) (htb : ∀ j, t j < 256) (htxb : ∀ j, tx j < 256) (hdn : 0 ≤ dn ∧ dn ≤ n) (hdp : 0 ≤ dp ∧ dp ≤ 20) (hni : nir = 0 ∨ nir = 1) (hneg : (nxS B n dn) = n ∨ (nxK B n e dn dp) ≤ 0) : CtI l G yX6_next cX6_next 2 (some .int) ({ frames := 6, cells := 0, slots := 0, locals := 148 } : Room) [.ref o] [oMo o th n a e dn at9 dp po kd wh re pl base sg xt row ror xi xd np nw nr nb ns yt nrw nir yi yd inf9, aB G a 3000 B, aB G xt 400 tx, aB G yt 400 t, aI G xi 60 xi9, aF G xd 60 xd9, aI G yi 60 qi, aF G yd 60 qd, aI G po 20 opf] (fun (z9 : Int) (w9 : va_W) => ∃ (at2 : Int), ∃ (dn2 : Int), ∃ (dp2 : Int), ∃ (pl2 : Int), ∃ (np2 : Int), ∃ (nw2 : Int), ∃ (nb2 : Int), ∃ (ns2 : Int), ∃ (nrw2 : Int), ∃ (nir2 : Int), ∃ (inf2 : Int), ∃ (nr2 : UInt64), ∃ (t2 : Nat → Nat), ∃ (qi2 : Nat → Int), ∃ (qd2 : Nat → UInt64), z9 = (nxA B n e dn dp) ∧ w9 = [oMo o 0 n a e dn2 at2 dp2 po kd wh re pl2 base sg xt row ror xi xd np2 nw2 nr2 nb2 ns2 yt nrw2 nir2 yi yd inf2, aB G a 3000 B, aB G xt 400 tx, aB G yt 400 t2, aI G xi 60 xi9, aF G xd 60 xd9, aI G yi 60 qi2, aF G yd 60 qd2, aI G po 20 opf] ∧ (dp2 = nxBr B n e dn dp) ∧ (dn2 = (if (nxS B n dn) = n ∧ ¬ e = 0 then n else nxRd B n e dn dp)) ∧ (pl2 = nxLp B n e dn dp pl opf) ∧ (∀ j, t2 j < 256) ∧ (nir2 = 0 ∨ nir2 = 1)) := by
  intro sz
  refine met_of (fun wc sz => va_Qi (qI _) (posW G wc sz) (va_A wc sz)) (by decide) [(0, .ref o)] rfl (Nat.le_of_ble_eq_true rfl) (fun K hK9 hnm X Y => ?_)
  subst hK9
  replace Y : RI K G (some .int) 0 0 _ := Y
  have hSR : dn ≤ (nxS B n dn) ∧ (nxS B n dn) ≤ n := fw_R (B := B) (n := n) _ dn 0 rfl hdn.2
  have hcr := bA_C n (nxS B n dn) hBb
  refine s_aload_n X dX6_next_0 rfl 0 rfl ?_
  refine s_iconst X dX6_next_1 ?_
  refine s_put X dX6_next_2 fl_X6_43 tyX6_ok nmX6 0 rfl rfl (rfl) (rfl) (Nat.le_of_ble_eq_true rfl) [oMo o 0 n a e dn at9 dp po kd wh re pl base sg xt row ror xi xd np nw nr nb ns yt nrw nir yi yd inf9, aB G a 3000 B, aB G xt 400 tx, aB G yt 400 t, aI G xi 60 xi9, aF G xd 60 xd9, aI G yi 60 qi, aF G yd 60 qd, aI G po 20 opf] rfl ?_
  refine s_aload_n X dX6_next_5 rfl 0 rfl ?_
  refine s_callVV X lk_X6_251 [0, 1] [2, 3, 4, 5, 6, 7, 8] (wr := [aB G xt 400 tx, aB G yt 400 t, aI G xi 60 xi9, aF G xd 60 xd9, aI G yi 60 qi, aF G yd 60 qd, aI G po 20 opf]) rfl rfl (by decide) (by decide) (by decide) (c_X6_passBlanks (kl K) G o a po xt xi xd yt yi yd 0 n e dn at9 dp kd wh pl base sg row ror np nw nb ns nrw nir inf9 re nr B (by assumption) (by assumption) (by omega)) rfl rfl dX6_next_6 rfl rfl (Nat.le_of_ble_eq_true rfl) (by decide) (fun w1 h1 => ?_)
  obtain rfl := h1
  show SW K G 2 0 0 9 [(0, .ref o)] [] [aB G xt 400 tx, aB G yt 400 t, aI G xi 60 xi9, aF G xd 60 xd9, aI G yi 60 qi, aF G yd 60 qd, aI G po 20 opf, oMo o 0 n a e dn (nxS B n dn) dp po kd wh re pl base sg xt row ror xi xd np nw nr nb ns yt nrw nir yi yd inf9, aB G a 3000 B]
  refine s_aload_n X dX6_next_9 rfl 0 rfl ?_
  refine s_get X dX6_next_10 fl_X6_102 7 rfl rfl ?_
  refine s_aload_n X dX6_next_13 rfl 0 rfl ?_
  refine s_get X dX6_next_14 fl_X6_40 7 rfl rfl ?_
  refine s_icmp_lt X 70 dX6_next_17 (by decide) (by omega) (fun c17 => ?_) (fun c17 => ?_)
  · refine s_aload_n X dX6_next_70 rfl 0 rfl ?_
    refine s_aload_n X dX6_next_71 rfl 0 rfl ?_
    refine s_get X dX6_next_72 fl_X6_102 7 rfl rfl ?_
    refine s_put X dX6_next_75 fl_X6_135 tyX6_ok nmX6 7 rfl rfl (rfl) (rfl) (Nat.le_of_ble_eq_true rfl) [aB G xt 400 tx, aB G yt 400 t, aI G xi 60 xi9, aF G xd 60 xd9, aI G yi 60 qi, aF G yd 60 qd, aI G po 20 opf, oMo o 0 n a e dn (nxS B n dn) dp po kd wh re pl base sg xt row ror xi xd (nxS B n dn) nw nr nb ns yt nrw nir yi yd inf9, aB G a 3000 B] rfl ?_
    refine s_aload_n X dX6_next_78 rfl 0 rfl ?_
    refine s_iconst X dX6_next_79 ?_
    refine s_put X dX6_next_80 fl_X6_99 tyX6_ok nmX6 7 rfl rfl (rfl) (rfl) (Nat.le_of_ble_eq_true rfl) [aB G xt 400 tx, aB G yt 400 t, aI G xi 60 xi9, aF G xd 60 xd9, aI G yi 60 qi, aF G yd 60 qd, aI G po 20 opf, oMo o 0 n a e dn (nxS B n dn) dp po kd wh re pl base sg xt row ror xi xd (nxS B n dn) nw nr nb 0 yt nrw nir yi yd inf9, aB G a 3000 B] rfl ?_
    refine s_aload_n X dX6_next_83 rfl 0 rfl ?_
    refine s_iconst X dX6_next_84 ?_
    refine s_put X dX6_next_85 fl_X6_81 tyX6_ok nmX6 7 rfl rfl (rfl) (rfl) (Nat.le_of_ble_eq_true rfl) [aB G xt 400 tx, aB G yt 400 t, aI G xi 60 xi9, aF G xd 60 xd9, aI G yi 60 qi, aF G yd 60 qd, aI G po 20 opf, oMo o 0 n a e dn (nxS B n dn) dp po kd wh re pl base sg xt row ror xi xd (nxS B n dn) nw nr 0 0 yt nrw nir yi yd inf9, aB G a 3000 B] rfl ?_
    refine s_aload_n X dX6_next_88 rfl 0 rfl ?_
    refine s_iconst X dX6_next_89 ?_
    refine s_put X dX6_next_90 fl_X6_171 tyX6_ok nmX6 7 rfl rfl (rfl) (rfl) (Nat.le_of_ble_eq_true rfl) [aB G xt 400 tx, aB G yt 400 t, aI G xi 60 xi9, aF G xd 60 xd9, aI G yi 60 qi, aF G yd 60 qd, aI G po 20 opf, oMo o 0 n a e dn (nxS B n dn) dp po kd wh re pl base sg xt row ror xi xd (nxS B n dn) nw nr 0 0 yt nrw nir yi yd 0, aB G a 3000 B] rfl ?_
    refine s_aload_n X dX6_next_93 rfl 0 rfl ?_
    refine s_aload_n X dX6_next_94 rfl 0 rfl ?_
    refine s_aload_n X dX6_next_95 rfl 0 rfl ?_
    refine s_get X dX6_next_96 fl_X6_102 7 rfl rfl ?_
    refine s_callIV X lk_X6_63 [7, 8] [0, 1, 2, 3, 4, 5, 6] (wr := [aB G xt 400 tx, aB G yt 400 t, aI G xi 60 xi9, aF G xd 60 xd9, aI G yi 60 qi, aF G yd 60 qd, aI G po 20 opf]) rfl rfl (by decide) (by decide) (by decide) (c_X6_byteAt (kl K) G o a po xt xi xd yt yi yd 0 n e dn (nxS B n dn) dp kd wh pl base sg row ror (nxS B n dn) nw 0 0 nrw nir 0 re nr B (nxS B n dn) (by assumption) (by assumption) (by omega)) rfl rfl dX6_next_99 rfl rfl (Nat.le_of_ble_eq_true rfl) (by decide) (fun z2 w2 h2 => ?_)
    obtain ⟨rfl, rfl⟩ := h2
    show SW K G 2 0 0 102 [(0, .ref o)] [.int (iI (bA B n (nxS B n dn))), .ref o] [aB G xt 400 tx, aB G yt 400 t, aI G xi 60 xi9, aF G xd 60 xd9, aI G yi 60 qi, aF G yd 60 qd, aI G po 20 opf, oMo o 0 n a e dn (nxS B n dn) dp po kd wh re pl base sg xt row ror xi xd (nxS B n dn) nw nr 0 0 yt nrw nir yi yd 0, aB G a 3000 B]
    have q3 := bA_C n (nxS B n dn) (by assumption : ∀ j, B j < 256)
    refine s_callIV X lk_X6_257 [7, 8, 1, 4, 5] [0, 2, 3, 6] (wr := [aB G xt 400 tx, aI G xi 60 xi9, aF G xd 60 xd9, aI G po 20 opf]) rfl rfl (by decide) (by decide) (by decide) (c_X6_read (kl K) G o a po xt xi xd yt yi yd 0 n e dn (nxS B n dn) dp kd wh pl base sg row ror (nxS B n dn) nw 0 0 nrw nir 0 re nr B t qi qd (by assumption) (by assumption) (by omega) (by omega) (by omega) (by omega) (by assumption) (by omega) (by omega) (by omega) (by omega) ((fw_st hdn (by omega)))) rfl rfl dX6_next_102 rfl rfl (Nat.le_of_ble_eq_true rfl) (by decide) (fun z4 w4 h4 => ?_)
    obtain ⟨at24, np24, nw24, nb24, ns24, nrw24, nir24, inf24, nr24, t24, qi24, qd24, rfl, rfl, f4_0, f4_1, f4_2, f4_3, f4_4⟩ := h4
    show SW K G 2 0 0 105 [(0, .ref o)] [.int (iI (rtN B n e (nxS B n dn) dp (bA B n (nxS B n dn))))] [aB G xt 400 tx, aI G xi 60 xi9, aF G xd 60 xd9, aI G po 20 opf, oMo o 0 n a e dn at24 dp po kd wh re pl base sg xt row ror xi xd np24 nw24 nr24 nb24 ns24 yt nrw24 nir24 yi yd inf24, aB G a 3000 B, aB G yt 400 t24, aI G yi 60 qi24, aF G yd 60 qd24]
    have hk9 : rtN B n e (nxS B n dn) dp (bA B n (nxS B n dn)) = (nxK B n e dn dp) := rfl
    have g0 := f4_0
    have g1 := f4_1
    have g2 := f4_2
    have g3 := f4_3
    have g4 := f4_4
    rw [hk9] at g0 g1 g4
    have hk8 := nxK_R B n e dn dp
    refine s_cast (st' := [.int (iI (nxK B n e dn dp))]) (by rfl) rfl rfl ?_
    refine s_istore_n X dX6_next_105 rfl [(1, .int (iI (nxK B n e dn dp))), (0, .ref o)] (by decide) rfl ?_
    refine s_iload_n X dX6_next_106 rfl 0 rfl ?_
    refine s_if_ne X 112 dX6_next_107 (by decide) (by omega) (fun c107 => ?_) (fun c107 => ?_)
    · refine s_aload_n X dX6_next_112 rfl 1 rfl ?_
      refine s_aload_n X dX6_next_113 rfl 1 rfl ?_
      refine s_get X dX6_next_114 fl_X6_102 4 rfl rfl ?_
      refine s_put X dX6_next_117 fl_X6_57 tyX6_ok nmX6 4 rfl rfl (rfl) (rfl) (Nat.le_of_ble_eq_true rfl) [aB G xt 400 tx, aI G xi 60 xi9, aF G xd 60 xd9, aI G po 20 opf, oMo o 0 n a e at24 at24 dp po kd wh re pl base sg xt row ror xi xd np24 nw24 nr24 nb24 ns24 yt nrw24 nir24 yi yd inf24, aB G a 3000 B, aB G yt 400 t24, aI G yi 60 qi24, aF G yd 60 qd24] rfl ?_
      refine s_aload_n X dX6_next_120 rfl 1 rfl ?_
      refine s_aload_n X dX6_next_121 rfl 1 rfl ?_
      refine s_get X dX6_next_122 fl_X6_135 4 rfl rfl ?_
      refine s_put X dX6_next_125 fl_X6_254 tyX6_ok nmX6 4 rfl rfl (rfl) (rfl) (Nat.le_of_ble_eq_true rfl) [aB G xt 400 tx, aI G xi 60 xi9, aF G xd 60 xd9, aI G po 20 opf, oMo o 0 n a e at24 at24 dp po kd wh re np24 base sg xt row ror xi xd np24 nw24 nr24 nb24 ns24 yt nrw24 nir24 yi yd inf24, aB G a 3000 B, aB G yt 400 t24, aI G yi 60 qi24, aF G yd 60 qd24] rfl ?_
      refine s_iload_n X dX6_next_128 rfl 0 rfl ?_
      refine s_if_le X 137 dX6_next_129 (by decide) (by omega) (fun c129 => ?_) (fun c129 => ?_)
      · refine s_iload_n X dX6_next_137 rfl 0 rfl ?_
        refine s_perm (ws' := [oMo o 0 n a e at24 at24 dp po kd wh re np24 base sg xt row ror xi xd np24 nw24 nr24 nb24 ns24 yt nrw24 nir24 yi yd inf24, aB G a 3000 B, aB G xt 400 tx, aB G yt 400 t24, aI G xi 60 xi9, aF G xd 60 xd9, aI G yi 60 qi24, aF G yd 60 qd24, aI G po 20 opf]) [4, 5, 0, 6, 1, 2, 7, 8, 3] (by decide) rfl rfl ?_
        refine s_iret X Y dX6_next_138 (rfl) ?_
        refine ⟨at24, at24, dp, np24, np24, nw24, nb24, ns24, nrw24, nir24, inf24, nr24, t24, qi24, qd24, ?_, rfl, ?_, ?_, ?_, ?_, ?_⟩
        · (first | (exfalso; omega) | (have hS : ¬ nxS B n dn = n := (by omega); rw [nxA, if_neg hS]))
        · (first | (exfalso; omega) | (have hS : ¬ nxS B n dn = n := (by omega); rw [nxBr, if_neg (fun q => hS q.1)]))
        · (first | (exfalso; omega) | (have hS : ¬ nxS B n dn = n := (by omega); rw [if_neg (fun q => hS q.1), nxRd, if_pos ⟨hS, by omega⟩]; exact (g0 (by omega)).1))
        · (first | (exfalso; omega) | (have hS : ¬ nxS B n dn = n := (by omega); rw [nxLp, if_neg hS, if_pos (by omega)]; exact (g0 (by omega)).2))
        · (first | (exfalso; omega) | (exact g2))
        · (first | (exfalso; omega) | (exact g3))
      · exfalso; omega
    · refine s_iconst X dX6_next_110 ?_
      refine s_perm (ws' := [oMo o 0 n a e dn at24 dp po kd wh re pl base sg xt row ror xi xd np24 nw24 nr24 nb24 ns24 yt nrw24 nir24 yi yd inf24, aB G a 3000 B, aB G xt 400 tx, aB G yt 400 t24, aI G xi 60 xi9, aF G xd 60 xd9, aI G yi 60 qi24, aF G yd 60 qd24, aI G po 20 opf]) [4, 5, 0, 6, 1, 2, 7, 8, 3] (by decide) rfl rfl ?_
      refine s_iret X Y dX6_next_111 (rfl) ?_
      refine ⟨at24, dn, dp, pl, np24, nw24, nb24, ns24, nrw24, nir24, inf24, nr24, t24, qi24, qd24, ?_, rfl, ?_, ?_, ?_, ?_, ?_⟩
      · (first | (exfalso; omega) | (have hS : ¬ nxS B n dn = n := (by omega); rw [nxA, if_neg hS]; omega))
      · (first | (exfalso; omega) | (have hS : ¬ nxS B n dn = n := (by omega); rw [nxBr, if_neg (fun q => hS q.1)]))
      · (first | (exfalso; omega) | (have hS : ¬ nxS B n dn = n := (by omega); rw [if_neg (fun q => hS q.1), nxRd, if_neg (by omega)]))
      · (first | (exfalso; omega) | (have hS : ¬ nxS B n dn = n := (by omega); rw [nxLp, if_neg hS, if_neg (by omega)]))
      · (first | (exfalso; omega) | (exact g2))
      · (first | (exfalso; omega) | (exact g3))
  · refine s_aload_n X dX6_next_20 rfl 0 rfl ?_
    refine s_get X dX6_next_21 fl_X6_53 7 rfl rfl ?_
    refine s_if_ne X 29 dX6_next_24 (by decide) (by omega) (fun c24 => ?_) (fun c24 => ?_)
    · refine s_aload_n X dX6_next_29 rfl 0 rfl ?_
      refine s_aload_n X dX6_next_30 rfl 0 rfl ?_
      refine s_get X dX6_next_31 fl_X6_40 7 rfl rfl ?_
      refine s_put X dX6_next_34 fl_X6_57 tyX6_ok nmX6 7 rfl rfl (rfl) (rfl) (Nat.le_of_ble_eq_true rfl) [aB G xt 400 tx, aB G yt 400 t, aI G xi 60 xi9, aF G xd 60 xd9, aI G yi 60 qi, aF G yd 60 qd, aI G po 20 opf, oMo o 0 n a e n (nxS B n dn) dp po kd wh re pl base sg xt row ror xi xd np nw nr nb ns yt nrw nir yi yd inf9, aB G a 3000 B] rfl ?_
      refine s_aload_n X dX6_next_37 rfl 0 rfl ?_
      refine s_get X dX6_next_38 fl_X6_212 7 rfl rfl ?_
      refine s_if_ne X 47 dX6_next_41 (by decide) (by omega) (fun c41 => ?_) (fun c41 => ?_)
      · refine s_aload_n X dX6_next_47 rfl 0 rfl ?_
        refine s_aload_n X dX6_next_48 rfl 0 rfl ?_
        refine s_get X dX6_next_49 fl_X6_13 7 rfl rfl ?_
        refine s_aload_n X dX6_next_52 rfl 0 rfl ?_
        refine s_get X dX6_next_53 fl_X6_212 7 rfl rfl ?_
        refine s_iconst X dX6_next_56 ?_
        refine s_isub X dX6_next_57 ?_
        refine s_iald X dX6_next_58 6 rfl (by omega) ?_
        refine s_put X dX6_next_59 fl_X6_254 tyX6_ok nmX6 7 rfl rfl (rfl) (rfl) (Nat.le_of_ble_eq_true rfl) [aB G xt 400 tx, aB G yt 400 t, aI G xi 60 xi9, aF G xd 60 xd9, aI G yi 60 qi, aF G yd 60 qd, aI G po 20 opf, oMo o 0 n a e n (nxS B n dn) dp po kd wh re (opf (dp - 1).toNat) base sg xt row ror xi xd np nw nr nb ns yt nrw nir yi yd inf9, aB G a 3000 B] rfl ?_
        refine s_aload_n X dX6_next_62 rfl 0 rfl ?_
        refine s_iconst X dX6_next_63 ?_
        refine s_put X dX6_next_64 fl_X6_212 tyX6_ok nmX6 7 rfl rfl (rfl) (rfl) (Nat.le_of_ble_eq_true rfl) [aB G xt 400 tx, aB G yt 400 t, aI G xi 60 xi9, aF G xd 60 xd9, aI G yi 60 qi, aF G yd 60 qd, aI G po 20 opf, oMo o 0 n a e n (nxS B n dn) 0 po kd wh re (opf (dp - 1).toNat) base sg xt row ror xi xd np nw nr nb ns yt nrw nir yi yd inf9, aB G a 3000 B] rfl ?_
        refine s_bipush (-7) X dX6_next_67 (by decide) ?_
        refine s_perm (ws' := [oMo o 0 n a e n (nxS B n dn) 0 po kd wh re (opf (dp - 1).toNat) base sg xt row ror xi xd np nw nr nb ns yt nrw nir yi yd inf9, aB G a 3000 B, aB G xt 400 tx, aB G yt 400 t, aI G xi 60 xi9, aF G xd 60 xd9, aI G yi 60 qi, aF G yd 60 qd, aI G po 20 opf]) [7, 8, 0, 1, 2, 3, 4, 5, 6] (by decide) rfl rfl ?_
        refine s_iret X Y dX6_next_69 (rfl) ?_
        refine ⟨(nxS B n dn), n, 0, (opf (dp - 1).toNat), np, nw, nb, ns, nrw, nir, inf9, nr, t, qi, qd, ?_, rfl, ?_, ?_, ?_, ?_, ?_⟩
        · (first | (exfalso; omega) | (have hS : nxS B n dn = n := (by omega); rw [nxA, if_pos hS, if_neg (by omega), if_neg (by omega)]))
        · (first | (exfalso; omega) | (have hS : nxS B n dn = n := (by omega); rw [nxBr, if_pos ⟨hS, by omega, by omega⟩]))
        · (first | (exfalso; omega) | (have hS : nxS B n dn = n := (by omega); rw [if_pos ⟨hS, by omega⟩]))
        · (first | (exfalso; omega) | (have hS : nxS B n dn = n := (by omega); rw [nxLp, if_pos hS, if_pos ⟨by omega, by omega⟩]))
        · (first | (exfalso; omega) | (exact htb))
        · (first | (exfalso; omega) | (exact hni))
      · refine s_bipush 20 X dX6_next_44 (by decide) ?_
        refine s_perm (ws' := [oMo o 0 n a e n (nxS B n dn) dp po kd wh re pl base sg xt row ror xi xd np nw nr nb ns yt nrw nir yi yd inf9, aB G a 3000 B, aB G xt 400 tx, aB G yt 400 t, aI G xi 60 xi9, aF G xd 60 xd9, aI G yi 60 qi, aF G yd 60 qd, aI G po 20 opf]) [7, 8, 0, 1, 2, 3, 4, 5, 6] (by decide) rfl rfl ?_
        refine s_iret X Y dX6_next_46 (rfl) ?_
        refine ⟨(nxS B n dn), n, dp, pl, np, nw, nb, ns, nrw, nir, inf9, nr, t, qi, qd, ?_, rfl, ?_, ?_, ?_, ?_, ?_⟩
        · (first | (exfalso; omega) | (have hS : nxS B n dn = n := (by omega); rw [nxA, if_pos hS, if_neg (by omega), if_pos (by omega)]))
        · (first | (exfalso; omega) | (have hS : nxS B n dn = n := (by omega); rw [nxBr, if_neg (by omega)]))
        · (first | (exfalso; omega) | (have hS : nxS B n dn = n := (by omega); rw [if_pos ⟨hS, by omega⟩]))
        · (first | (exfalso; omega) | (have hS : nxS B n dn = n := (by omega); rw [nxLp, if_pos hS, if_neg (by omega)]))
        · (first | (exfalso; omega) | (exact htb))
        · (first | (exfalso; omega) | (exact hni))
    · refine s_iconst X dX6_next_27 ?_
      refine s_perm (ws' := [oMo o 0 n a e dn (nxS B n dn) dp po kd wh re pl base sg xt row ror xi xd np nw nr nb ns yt nrw nir yi yd inf9, aB G a 3000 B, aB G xt 400 tx, aB G yt 400 t, aI G xi 60 xi9, aF G xd 60 xd9, aI G yi 60 qi, aF G yd 60 qd, aI G po 20 opf]) [7, 8, 0, 1, 2, 3, 4, 5, 6] (by decide) rfl rfl ?_
      refine s_iret X Y dX6_next_28 (rfl) ?_
      refine ⟨(nxS B n dn), dn, dp, pl, np, nw, nb, ns, nrw, nir, inf9, nr, t, qi, qd, ?_, rfl, ?_, ?_, ?_, ?_, ?_⟩
      · (first | (exfalso; omega) | (have hS : nxS B n dn = n := (by omega); rw [nxA, if_pos hS, if_pos (by omega)]))
      · (first | (exfalso; omega) | (have hS : nxS B n dn = n := (by omega); rw [nxBr, if_neg (by omega)]))
      · (first | (exfalso; omega) | (have hS : nxS B n dn = n := (by omega); rw [if_neg (by omega), nxRd, if_neg (by omega)]))
      · (first | (exfalso; omega) | (have hS : nxS B n dn = n := (by omega); rw [nxLp, if_pos hS, if_neg (by omega)]))
      · (first | (exfalso; omega) | (exact htb))
      · (first | (exfalso; omega) | (exact hni))
set_option maxRecDepth 100000 in
set_option maxHeartbeats 4000000 in
theorem c_X6_add (l : Launch) (G : GX) (o : Nat) (a : Nat) (po : Nat) (xt : Nat) (xi : Nat) (xd : Nat) (yt : Nat) (yi : Nat) (yd : Nat) (th : Int) (n : Int) (e : Int) (dn : Int) (at9 : Int) (dp : Int) (kd : Int) (wh : Int) (pl : Int) (base : Int) (sg : Int) (row : Int) (ror : Int) (np : Int) (nw : Int) (nb : Int) (ns : Int) (nrw : Int) (nir : Int) (inf9 : Int) (re : UInt64) (nr : UInt64) (B : Nat → Nat) (bv : Nat) (hn : 0 ≤ n ∧ n ≤ 3000) (he : e = 0 ∨ e = 1) : CtI l G yX6_add cX6_add 2 (some .int) ({ frames := 0, cells := 0, slots := 0, locals := 0 } : Room) [.ref o, .int (sb bv)] [oMo o th n a e dn at9 dp po kd wh re pl base sg xt row ror xi xd np nw nr nb ns yt nrw nir yi yd inf9, aB G a 3000 B] (fun (z9 : Int) (w9 : va_W) => ∃ (th2 : Int), ∃ (n2 : Int), ∃ (B2 : Nat → Nat), w9 = [oMo o th2 n2 a e dn at9 dp po kd wh re pl base sg xt row ror xi xd np nw nr nb ns yt nrw nir yi yd inf9, aB G a 3000 B2] ∧ ((e = 1 ∧ th2 = 1 ∧ n2 = n ∧ B2 = B ∧ z9 = 0) ∨ (e = 0 ∧ n = 3000 ∧ th2 = 2 ∧ n2 = n ∧ B2 = B ∧ z9 = 0) ∨ (e = 0 ∧ n < 3000 ∧ th2 = 0 ∧ n2 = n + 1 ∧ B2 = uB B n.toNat bv ∧ z9 = n + 1))) := by
  intro sz
  refine met_of (fun wc sz => va_Qi (qI _) (posW G wc sz) (va_A wc sz)) (by decide) [(0, .ref o), (1, .int (sb bv))] rfl (Nat.le_of_ble_eq_true rfl) (fun K hK9 hnm X Y => ?_)
  subst hK9
  replace Y : RI K G (some .int) 0 0 _ := Y
  refine s_aload_n X dX6_add_0 rfl 0 rfl ?_
  refine s_aload_n X dX6_add_1 rfl 0 rfl ?_
  refine s_get X dX6_add_2 fl_X6_53 0 rfl rfl ?_
  refine s_if_eq X 12 dX6_add_5 (by decide) (by omega) (fun c5 => ?_) (fun c5 => ?_)
  · refine s_aload_n X dX6_add_12 rfl 0 rfl ?_
    refine s_get X dX6_add_13 fl_X6_40 0 rfl rfl ?_
    refine s_sipush 3000 X dX6_add_16 (by decide) ?_
    refine s_icmp_ne X 26 dX6_add_19 (by decide) (by omega) (fun c19 => ?_) (fun c19 => ?_)
    · refine s_iconst X dX6_add_26 ?_
      refine s_put X dX6_add_27 fl_X6_43 tyX6_ok nmX6 0 rfl rfl (rfl) (rfl) (Nat.le_of_ble_eq_true rfl) [oMo o 0 n a e dn at9 dp po kd wh re pl base sg xt row ror xi xd np nw nr nb ns yt nrw nir yi yd inf9, aB G a 3000 B] rfl ?_
      refine s_aload_n X dX6_add_30 rfl 0 rfl ?_
      refine s_get X dX6_add_31 fl_X6_43 0 rfl rfl ?_
      refine s_if_le X 39 dX6_add_34 (by decide) (by omega) (fun c34 => ?_) (fun c34 => ?_)
      · refine s_aload_n X dX6_add_39 rfl 0 rfl ?_
        refine s_get X dX6_add_40 fl_X6_7 0 rfl rfl ?_
        refine s_aload_n X dX6_add_43 rfl 0 rfl ?_
        refine s_get X dX6_add_44 fl_X6_40 0 rfl rfl ?_
        refine s_iload_n X dX6_add_47 rfl 1 rfl ?_
        refine s_bast X dX6_add_48 1 rfl (by omega) [oMo o 0 n a e dn at9 dp po kd wh re pl base sg xt row ror xi xd np nw nr nb ns yt nrw nir yi yd inf9, aB G a 3000 (uB B n.toNat bv)] rfl ?_
        refine s_aload_n X dX6_add_49 rfl 0 rfl ?_
        refine s_dup X dX6_add_50 rfl ?_
        refine s_get X dX6_add_51 fl_X6_40 0 rfl rfl ?_
        refine s_iconst X dX6_add_54 ?_
        refine s_iadd X dX6_add_55 ?_
        refine s_put X dX6_add_56 fl_X6_40 tyX6_ok nmX6 0 rfl rfl (rfl) (rfl) (Nat.le_of_ble_eq_true rfl) [oMo o 0 (n + 1) a e dn at9 dp po kd wh re pl base sg xt row ror xi xd np nw nr nb ns yt nrw nir yi yd inf9, aB G a 3000 (uB B n.toNat bv)] rfl ?_
        refine s_aload_n X dX6_add_59 rfl 0 rfl ?_
        refine s_get X dX6_add_60 fl_X6_40 0 rfl rfl ?_
        refine s_iret X Y dX6_add_63 (rfl) ?_
        refine ⟨0, (n + 1), (uB B n.toNat bv), rfl, ?_⟩
        · (first | (exfalso; omega) | (first | exact Or.inl ⟨by omega, rfl, rfl, rfl, rfl⟩ | exact Or.inr (Or.inl ⟨by omega, by omega, rfl, rfl, rfl, rfl⟩) | exact Or.inr (Or.inr ⟨by omega, by omega, rfl, rfl, rfl, rfl⟩)))
      · refine s_iconst X dX6_add_37 ?_
        refine s_iret X Y dX6_add_38 (rfl) ?_
        refine ⟨0, n, B, rfl, ?_⟩
        · (first | (exfalso; omega) | (first | exact Or.inl ⟨by omega, rfl, rfl, rfl, rfl⟩ | exact Or.inr (Or.inl ⟨by omega, by omega, rfl, rfl, rfl, rfl⟩) | exact Or.inr (Or.inr ⟨by omega, by omega, rfl, rfl, rfl, rfl⟩)))
    · refine s_iconst X dX6_add_22 ?_
      refine s_goto X 27 dX6_add_23 (by decide) ?_
      refine s_put X dX6_add_27 fl_X6_43 tyX6_ok nmX6 0 rfl rfl (rfl) (rfl) (Nat.le_of_ble_eq_true rfl) [oMo o 2 n a e dn at9 dp po kd wh re pl base sg xt row ror xi xd np nw nr nb ns yt nrw nir yi yd inf9, aB G a 3000 B] rfl ?_
      refine s_aload_n X dX6_add_30 rfl 0 rfl ?_
      refine s_get X dX6_add_31 fl_X6_43 0 rfl rfl ?_
      refine s_if_le X 39 dX6_add_34 (by decide) (by omega) (fun c34 => ?_) (fun c34 => ?_)
      · refine s_aload_n X dX6_add_39 rfl 0 rfl ?_
        refine s_get X dX6_add_40 fl_X6_7 0 rfl rfl ?_
        refine s_aload_n X dX6_add_43 rfl 0 rfl ?_
        refine s_get X dX6_add_44 fl_X6_40 0 rfl rfl ?_
        refine s_iload_n X dX6_add_47 rfl 1 rfl ?_
        refine s_bast X dX6_add_48 1 rfl (by omega) [oMo o 2 n a e dn at9 dp po kd wh re pl base sg xt row ror xi xd np nw nr nb ns yt nrw nir yi yd inf9, aB G a 3000 (uB B n.toNat bv)] rfl ?_
        refine s_aload_n X dX6_add_49 rfl 0 rfl ?_
        refine s_dup X dX6_add_50 rfl ?_
        refine s_get X dX6_add_51 fl_X6_40 0 rfl rfl ?_
        refine s_iconst X dX6_add_54 ?_
        refine s_iadd X dX6_add_55 ?_
        refine s_put X dX6_add_56 fl_X6_40 tyX6_ok nmX6 0 rfl rfl (rfl) (rfl) (Nat.le_of_ble_eq_true rfl) [oMo o 2 (n + 1) a e dn at9 dp po kd wh re pl base sg xt row ror xi xd np nw nr nb ns yt nrw nir yi yd inf9, aB G a 3000 (uB B n.toNat bv)] rfl ?_
        refine s_aload_n X dX6_add_59 rfl 0 rfl ?_
        refine s_get X dX6_add_60 fl_X6_40 0 rfl rfl ?_
        refine s_iret X Y dX6_add_63 (rfl) ?_
        refine ⟨2, (n + 1), (uB B n.toNat bv), rfl, ?_⟩
        · (first | (exfalso; omega) | (first | exact Or.inl ⟨by omega, rfl, rfl, rfl, rfl⟩ | exact Or.inr (Or.inl ⟨by omega, by omega, rfl, rfl, rfl, rfl⟩) | exact Or.inr (Or.inr ⟨by omega, by omega, rfl, rfl, rfl, rfl⟩)))
      · refine s_iconst X dX6_add_37 ?_
        refine s_iret X Y dX6_add_38 (rfl) ?_
        refine ⟨2, n, B, rfl, ?_⟩
        · (first | (exfalso; omega) | (first | exact Or.inl ⟨by omega, rfl, rfl, rfl, rfl⟩ | exact Or.inr (Or.inl ⟨by omega, by omega, rfl, rfl, rfl, rfl⟩) | exact Or.inr (Or.inr ⟨by omega, by omega, rfl, rfl, rfl, rfl⟩)))
  · refine s_iconst X dX6_add_8 ?_
    refine s_goto X 27 dX6_add_9 (by decide) ?_
    refine s_put X dX6_add_27 fl_X6_43 tyX6_ok nmX6 0 rfl rfl (rfl) (rfl) (Nat.le_of_ble_eq_true rfl) [oMo o 1 n a e dn at9 dp po kd wh re pl base sg xt row ror xi xd np nw nr nb ns yt nrw nir yi yd inf9, aB G a 3000 B] rfl ?_
    refine s_aload_n X dX6_add_30 rfl 0 rfl ?_
    refine s_get X dX6_add_31 fl_X6_43 0 rfl rfl ?_
    refine s_if_le X 39 dX6_add_34 (by decide) (by omega) (fun c34 => ?_) (fun c34 => ?_)
    · refine s_aload_n X dX6_add_39 rfl 0 rfl ?_
      refine s_get X dX6_add_40 fl_X6_7 0 rfl rfl ?_
      refine s_aload_n X dX6_add_43 rfl 0 rfl ?_
      refine s_get X dX6_add_44 fl_X6_40 0 rfl rfl ?_
      refine s_iload_n X dX6_add_47 rfl 1 rfl ?_
      refine s_bast X dX6_add_48 1 rfl (by omega) [oMo o 1 n a e dn at9 dp po kd wh re pl base sg xt row ror xi xd np nw nr nb ns yt nrw nir yi yd inf9, aB G a 3000 (uB B n.toNat bv)] rfl ?_
      refine s_aload_n X dX6_add_49 rfl 0 rfl ?_
      refine s_dup X dX6_add_50 rfl ?_
      refine s_get X dX6_add_51 fl_X6_40 0 rfl rfl ?_
      refine s_iconst X dX6_add_54 ?_
      refine s_iadd X dX6_add_55 ?_
      refine s_put X dX6_add_56 fl_X6_40 tyX6_ok nmX6 0 rfl rfl (rfl) (rfl) (Nat.le_of_ble_eq_true rfl) [oMo o 1 (n + 1) a e dn at9 dp po kd wh re pl base sg xt row ror xi xd np nw nr nb ns yt nrw nir yi yd inf9, aB G a 3000 (uB B n.toNat bv)] rfl ?_
      refine s_aload_n X dX6_add_59 rfl 0 rfl ?_
      refine s_get X dX6_add_60 fl_X6_40 0 rfl rfl ?_
      refine s_iret X Y dX6_add_63 (rfl) ?_
      refine ⟨1, (n + 1), (uB B n.toNat bv), rfl, ?_⟩
      · (first | (exfalso; omega) | (first | exact Or.inl ⟨by omega, rfl, rfl, rfl, rfl⟩ | exact Or.inr (Or.inl ⟨by omega, by omega, rfl, rfl, rfl, rfl⟩) | exact Or.inr (Or.inr ⟨by omega, by omega, rfl, rfl, rfl, rfl⟩)))
    · refine s_iconst X dX6_add_37 ?_
      refine s_iret X Y dX6_add_38 (rfl) ?_
      refine ⟨1, n, B, rfl, ?_⟩
      · (first | (exfalso; omega) | (first | exact Or.inl ⟨by omega, rfl, rfl, rfl, rfl⟩ | exact Or.inr (Or.inl ⟨by omega, by omega, rfl, rfl, rfl, rfl⟩) | exact Or.inr (Or.inr ⟨by omega, by omega, rfl, rfl, rfl, rfl⟩)))
set_option maxRecDepth 100000 in
set_option maxHeartbeats 4000000 in
theorem c_X6_binary (l : Launch) (G : GX) (o : Nat) (a : Nat) (po : Nat) (xt : Nat) (xi : Nat) (xd : Nat) (yt : Nat) (yi : Nat) (yd : Nat) (th : Int) (n : Int) (e : Int) (dn : Int) (at9 : Int) (dp : Int) (kd : Int) (wh : Int) (pl : Int) (base : Int) (sg : Int) (row : Int) (ror : Int) (np : Int) (nw : Int) (nb : Int) (ns : Int) (nrw : Int) (nir : Int) (inf9 : Int) (re : UInt64) (nr : UInt64) (xi9 : Nat → Int) (i : Int) (w : Int) (hrw : 0 ≤ row ∧ row ≤ 60) (hi : R32 i ∧ R32 w) (hror : ror = 0 ∨ ror = 1) : CtI l G yX6_binary cX6_binary 3 (some .int) ({ frames := 0, cells := 0, slots := 0, locals := 0 } : Room) [.ref o, .int (iI i), .int (iI w)] [oMo o th n a e dn at9 dp po kd wh re pl base sg xt row ror xi xd np nw nr nb ns yt nrw nir yi yd inf9, aI G xi 60 xi9] (fun (z9 : Int) (w9 : va_W) => ∃ (th2 : Int), w9 = [oMo o th2 n a e dn at9 dp po kd wh re pl base sg xt row ror xi xd np nw nr nb ns yt nrw nir yi yd inf9, aI G xi 60 xi9] ∧ ((0 ≤ i ∧ i < row ∧ (w = 0 ∨ w = 1) ∧ th2 = 0 ∧ z9 = (if w = 0 then (if ror = 1 then 1 else 0) else if ror = 1 then 0 else xi9 i.toNat)) ∨ (¬ (0 ≤ i ∧ i < row ∧ (w = 0 ∨ w = 1)) ∧ th2 = 1 ∧ z9 = 0))) := by
  intro sz
  refine met_of (fun wc sz => va_Qi (qI _) (posW G wc sz) (va_A wc sz)) (by decide) [(0, .ref o), (1, .int (iI i)), (2, .int (iI w))] rfl (Nat.le_of_ble_eq_true rfl) (fun K hK9 hnm X Y => ?_)
  subst hK9
  replace Y : RI K G (some .int) 0 0 _ := Y
  have j27 : ∀ (x : Int) (hx : (0 ≤ i ∧ i < row ∧ (w = 0 ∨ w = 1) ∧ x = 0) ∨ (¬ (0 ≤ i ∧ i < row ∧ (w = 0 ∨ w = 1)) ∧ x = 1)), SW K G 3 0 0 27 [(0, .ref o), (1, .int (iI i)), (2, .int (iI w))] [.int (iI x), .ref o] [oMo o th n a e dn at9 dp po kd wh re pl base sg xt row ror xi xd np nw nr nb ns yt nrw nir yi yd inf9, aI G xi 60 xi9] := by
    intro x hx
    refine s_put X dX6_binary_27 fl_X6_43 tyX6_ok nmX6 0 rfl rfl (rfl) (rfl) (Nat.le_of_ble_eq_true rfl) [oMo o x n a e dn at9 dp po kd wh re pl base sg xt row ror xi xd np nw nr nb ns yt nrw nir yi yd inf9, aI G xi 60 xi9] rfl ?_
    refine s_aload_n X dX6_binary_30 rfl 0 rfl ?_
    refine s_get X dX6_binary_31 fl_X6_43 0 rfl rfl ?_
    refine s_if_le X 39 dX6_binary_34 (by decide) (by omega) (fun c34 => ?_) (fun c34 => ?_)
    · refine s_iload_n X dX6_binary_39 rfl 2 rfl ?_
      refine s_if_ne X 58 dX6_binary_40 (by decide) (by omega) (fun c40 => ?_) (fun c40 => ?_)
      · refine s_aload_n X dX6_binary_58 rfl 0 rfl ?_
        refine s_get X dX6_binary_59 fl_X6_248 0 rfl rfl ?_
        refine s_if_eq X 69 dX6_binary_62 (by decide) (by omega) (fun c62 => ?_) (fun c62 => ?_)
        · refine s_aload_n X dX6_binary_69 rfl 0 rfl ?_
          refine s_get X dX6_binary_70 fl_X6_24 0 rfl rfl ?_
          refine s_iload_n X dX6_binary_73 rfl 1 rfl ?_
          refine s_iald X dX6_binary_74 1 rfl (by omega) ?_
          refine s_iret X Y dX6_binary_75 (rfl) ?_
          refine ⟨x, rfl, ?_⟩
          · (first | (exfalso; omega) | (first | exact Or.inr ⟨by omega, by omega, rfl⟩ | exact Or.inl ⟨by omega, by omega, by omega, by omega, by first | rw [if_pos (by omega), if_pos (by omega)] | rw [if_pos (by omega), if_neg (by omega)] | rw [if_neg (by omega), if_pos (by omega)] | rw [if_neg (by omega), if_neg (by omega)]⟩))
        · refine s_iconst X dX6_binary_65 ?_
          refine s_goto X 75 dX6_binary_66 (by decide) ?_
          refine s_iret X Y dX6_binary_75 (rfl) ?_
          refine ⟨x, rfl, ?_⟩
          · (first | (exfalso; omega) | (first | exact Or.inr ⟨by omega, by omega, rfl⟩ | exact Or.inl ⟨by omega, by omega, by omega, by omega, by first | rw [if_pos (by omega), if_pos (by omega)] | rw [if_pos (by omega), if_neg (by omega)] | rw [if_neg (by omega), if_pos (by omega)] | rw [if_neg (by omega), if_neg (by omega)]⟩))
      · refine s_aload_n X dX6_binary_43 rfl 0 rfl ?_
        refine s_get X dX6_binary_44 fl_X6_248 0 rfl rfl ?_
        refine s_if_eq X 54 dX6_binary_47 (by decide) (by omega) (fun c47 => ?_) (fun c47 => ?_)
        · refine s_iconst X dX6_binary_54 ?_
          refine s_goto X 75 dX6_binary_55 (by decide) ?_
          refine s_iret X Y dX6_binary_75 (rfl) ?_
          refine ⟨x, rfl, ?_⟩
          · (first | (exfalso; omega) | (first | exact Or.inr ⟨by omega, by omega, rfl⟩ | exact Or.inl ⟨by omega, by omega, by omega, by omega, by first | rw [if_pos (by omega), if_pos (by omega)] | rw [if_pos (by omega), if_neg (by omega)] | rw [if_neg (by omega), if_pos (by omega)] | rw [if_neg (by omega), if_neg (by omega)]⟩))
        · refine s_iconst X dX6_binary_50 ?_
          refine s_goto X 75 dX6_binary_51 (by decide) ?_
          refine s_iret X Y dX6_binary_75 (rfl) ?_
          refine ⟨x, rfl, ?_⟩
          · (first | (exfalso; omega) | (first | exact Or.inr ⟨by omega, by omega, rfl⟩ | exact Or.inl ⟨by omega, by omega, by omega, by omega, by first | rw [if_pos (by omega), if_pos (by omega)] | rw [if_pos (by omega), if_neg (by omega)] | rw [if_neg (by omega), if_pos (by omega)] | rw [if_neg (by omega), if_neg (by omega)]⟩))
    · refine s_iconst X dX6_binary_37 ?_
      refine s_iret X Y dX6_binary_38 (rfl) ?_
      refine ⟨x, rfl, ?_⟩
      · (first | (exfalso; omega) | (first | exact Or.inr ⟨by omega, by omega, rfl⟩ | exact Or.inl ⟨by omega, by omega, by omega, by omega, by first | rw [if_pos (by omega), if_pos (by omega)] | rw [if_pos (by omega), if_neg (by omega)] | rw [if_neg (by omega), if_pos (by omega)] | rw [if_neg (by omega), if_neg (by omega)]⟩))
  refine s_aload_n X dX6_binary_0 rfl 0 rfl ?_
  refine s_iload_n X dX6_binary_1 rfl 1 rfl ?_
  refine s_if_lt X 26 dX6_binary_2 (by decide) (by omega) (fun c2 => ?_) (fun c2 => ?_)
  · refine s_iconst X dX6_binary_26 ?_
    exact j27 1 (by omega)
  · refine s_iload_n X dX6_binary_5 rfl 1 rfl ?_
    refine s_aload_n X dX6_binary_6 rfl 0 rfl ?_
    refine s_get X dX6_binary_7 fl_X6_245 0 rfl rfl ?_
    refine s_icmp_ge X 26 dX6_binary_10 (by decide) (by omega) (fun c10 => ?_) (fun c10 => ?_)
    · refine s_iconst X dX6_binary_26 ?_
      exact j27 1 (by omega)
    · refine s_iload_n X dX6_binary_13 rfl 2 rfl ?_
      refine s_if_eq X 22 dX6_binary_14 (by decide) (by omega) (fun c14 => ?_) (fun c14 => ?_)
      · refine s_iconst X dX6_binary_22 ?_
        refine s_goto X 27 dX6_binary_23 (by decide) ?_
        exact j27 0 (by omega)
      · refine s_iload_n X dX6_binary_17 rfl 2 rfl ?_
        refine s_iconst X dX6_binary_18 ?_
        refine s_icmp_ne X 26 dX6_binary_19 (by decide) (by omega) (fun c19 => ?_) (fun c19 => ?_)
        · refine s_iconst X dX6_binary_26 ?_
          exact j27 1 (by omega)
        · refine s_iconst X dX6_binary_22 ?_
          refine s_goto X 27 dX6_binary_23 (by decide) ?_
          exact j27 0 (by omega)
set_option maxRecDepth 100000 in
set_option maxHeartbeats 4000000 in
theorem c_X6_binaryReal (l : Launch) (G : GX) (o : Nat) (a : Nat) (po : Nat) (xt : Nat) (xi : Nat) (xd : Nat) (yt : Nat) (yi : Nat) (yd : Nat) (th : Int) (n : Int) (e : Int) (dn : Int) (at9 : Int) (dp : Int) (kd : Int) (wh : Int) (pl : Int) (base : Int) (sg : Int) (row : Int) (ror : Int) (np : Int) (nw : Int) (nb : Int) (ns : Int) (nrw : Int) (nir : Int) (inf9 : Int) (re : UInt64) (nr : UInt64) (xd9 : Nat → UInt64) (i : Int) (hrw : 0 ≤ row ∧ row ≤ 60) (hi : R32 i) (hror : ror = 0 ∨ ror = 1) : CtD l G yX6_binaryReal cX6_binaryReal 2 (some .double) ({ frames := 0, cells := 0, slots := 0, locals := 0 } : Room) [.ref o, .int (iI i)] [oMo o th n a e dn at9 dp po kd wh re pl base sg xt row ror xi xd np nw nr nb ns yt nrw nir yi yd inf9, aF G xd 60 xd9] (fun (z9 : UInt64) (w9 : va_W) => ∃ (th2 : Int), w9 = [oMo o th2 n a e dn at9 dp po kd wh re pl base sg xt row ror xi xd np nw nr nb ns yt nrw nir yi yd inf9, aF G xd 60 xd9] ∧ ((0 ≤ i ∧ i < row ∧ th2 = 0 ∧ z9 = (if ror = 1 then xd9 i.toNat else FP.dconst0)) ∨ (¬ (0 ≤ i ∧ i < row) ∧ th2 = 1))) := by
  intro sz
  refine met_of (fun wc sz => va_Qd _ (posW G wc sz) (va_A wc sz)) (by decide) [(0, .ref o), (1, .int (iI i))] rfl (Nat.le_of_ble_eq_true rfl) (fun K hK9 hnm X Y => ?_)
  subst hK9
  replace Y : RD K G (some .double) 0 0 _ := Y
  have j18 : ∀ (x : Int) (hx : (0 ≤ i ∧ i < row ∧ x = 0) ∨ (¬ (0 ≤ i ∧ i < row) ∧ x = 1)), SW K G 2 0 0 18 [(0, .ref o), (1, .int (iI i))] [.int (iI x), .ref o] [oMo o th n a e dn at9 dp po kd wh re pl base sg xt row ror xi xd np nw nr nb ns yt nrw nir yi yd inf9, aF G xd 60 xd9] := by
    intro x hx
    refine s_put X dX6_binaryReal_18 fl_X6_43 tyX6_ok nmX6 0 rfl rfl (rfl) (rfl) (Nat.le_of_ble_eq_true rfl) [oMo o x n a e dn at9 dp po kd wh re pl base sg xt row ror xi xd np nw nr nb ns yt nrw nir yi yd inf9, aF G xd 60 xd9] rfl ?_
    refine s_aload_n X dX6_binaryReal_21 rfl 0 rfl ?_
    refine s_get X dX6_binaryReal_22 fl_X6_43 0 rfl rfl ?_
    refine s_if_ne X 44 dX6_binaryReal_25 (by decide) (by omega) (fun c25 => ?_) (fun c25 => ?_)
    · refine s_dconst0 X dX6_binaryReal_44 ?_
      refine s_dret X Y dX6_binaryReal_45 ?_
      refine ⟨x, rfl, ?_⟩
      · (first | (exfalso; omega) | (first | exact Or.inr ⟨by omega, by omega⟩ | exact Or.inl ⟨by omega, by omega, by omega, by first | rw [if_pos (by omega)] | rw [if_neg (by omega)]⟩))
    · refine s_aload_n X dX6_binaryReal_28 rfl 0 rfl ?_
      refine s_get X dX6_binaryReal_29 fl_X6_248 0 rfl rfl ?_
      refine s_if_eq X 44 dX6_binaryReal_32 (by decide) (by omega) (fun c32 => ?_) (fun c32 => ?_)
      · refine s_dconst0 X dX6_binaryReal_44 ?_
        refine s_dret X Y dX6_binaryReal_45 ?_
        refine ⟨x, rfl, ?_⟩
        · (first | (exfalso; omega) | (first | exact Or.inr ⟨by omega, by omega⟩ | exact Or.inl ⟨by omega, by omega, by omega, by first | rw [if_pos (by omega)] | rw [if_neg (by omega)]⟩))
      · refine s_aload_n X dX6_binaryReal_35 rfl 0 rfl ?_
        refine s_get X dX6_binaryReal_36 fl_X6_27 0 rfl rfl ?_
        refine s_iload_n X dX6_binaryReal_39 rfl 1 rfl ?_
        refine s_dald X dX6_binaryReal_40 1 rfl (by omega) ?_
        refine s_goto X 45 dX6_binaryReal_41 (by decide) ?_
        refine s_dret X Y dX6_binaryReal_45 ?_
        refine ⟨x, rfl, ?_⟩
        · (first | (exfalso; omega) | (first | exact Or.inr ⟨by omega, by omega⟩ | exact Or.inl ⟨by omega, by omega, by omega, by first | rw [if_pos (by omega)] | rw [if_neg (by omega)]⟩))
  refine s_aload_n X dX6_binaryReal_0 rfl 0 rfl ?_
  refine s_iload_n X dX6_binaryReal_1 rfl 1 rfl ?_
  refine s_if_lt X 17 dX6_binaryReal_2 (by decide) (by omega) (fun c2 => ?_) (fun c2 => ?_)
  · refine s_iconst X dX6_binaryReal_17 ?_
    exact j18 1 (by omega)
  · refine s_iload_n X dX6_binaryReal_5 rfl 1 rfl ?_
    refine s_aload_n X dX6_binaryReal_6 rfl 0 rfl ?_
    refine s_get X dX6_binaryReal_7 fl_X6_245 0 rfl rfl ?_
    refine s_icmp_ge X 17 dX6_binaryReal_10 (by decide) (by omega) (fun c10 => ?_) (fun c10 => ?_)
    · refine s_iconst X dX6_binaryReal_17 ?_
      exact j18 1 (by omega)
    · refine s_iconst X dX6_binaryReal_13 ?_
      refine s_goto X 18 dX6_binaryReal_14 (by decide) ?_
      exact j18 0 (by omega)
set_option maxRecDepth 100000 in
set_option maxHeartbeats 4000000 in
theorem c_X6_octet (l : Launch) (G : GX) (o : Nat) (a : Nat) (po : Nat) (xt : Nat) (xi : Nat) (xd : Nat) (yt : Nat) (yi : Nat) (yd : Nat) (th : Int) (n : Int) (e : Int) (dn : Int) (at9 : Int) (dp : Int) (kd : Int) (wh : Int) (pl : Int) (base : Int) (sg : Int) (row : Int) (ror : Int) (np : Int) (nw : Int) (nb : Int) (ns : Int) (nrw : Int) (nir : Int) (inf9 : Int) (re : UInt64) (nr : UInt64) (B : Nat → Nat) (i : Int) (hn : 0 ≤ n ∧ n ≤ 3000) (hBb : ∀ j, B j < 256) (hi : R32 i) : CtI l G yX6_octet cX6_octet 2 (some .byte) ({ frames := 0, cells := 0, slots := 0, locals := 0 } : Room) [.ref o, .int (iI i)] [oMo o th n a e dn at9 dp po kd wh re pl base sg xt row ror xi xd np nw nr nb ns yt nrw nir yi yd inf9, aB G a 3000 B] (fun (z9 : Int) (w9 : va_W) => ∃ (th2 : Int), w9 = [oMo o th2 n a e dn at9 dp po kd wh re pl base sg xt row ror xi xd np nw nr nb ns yt nrw nir yi yd inf9, aB G a 3000 B] ∧ ((0 ≤ i ∧ i < n ∧ th2 = 0 ∧ z9 = sg8 (B i.toNat)) ∨ (¬ (0 ≤ i ∧ i < n) ∧ th2 = 1))) := by
  intro sz
  refine met_of (fun wc sz => va_Qi (qI _) (posW G wc sz) (va_A wc sz)) (by decide) [(0, .ref o), (1, .int (iI i))] rfl (Nat.le_of_ble_eq_true rfl) (fun K hK9 hnm X Y => ?_)
  subst hK9
  replace Y : RI K G (some .byte) 0 0 _ := Y
  have j18 : ∀ (x : Int) (hx : (0 ≤ i ∧ i < n ∧ x = 0) ∨ (¬ (0 ≤ i ∧ i < n) ∧ x = 1)), SW K G 2 0 0 18 [(0, .ref o), (1, .int (iI i))] [.int (iI x), .ref o] [oMo o th n a e dn at9 dp po kd wh re pl base sg xt row ror xi xd np nw nr nb ns yt nrw nir yi yd inf9, aB G a 3000 B] := by
    intro x hx
    refine s_put X dX6_octet_18 fl_X6_43 tyX6_ok nmX6 0 rfl rfl (rfl) (rfl) (Nat.le_of_ble_eq_true rfl) [oMo o x n a e dn at9 dp po kd wh re pl base sg xt row ror xi xd np nw nr nb ns yt nrw nir yi yd inf9, aB G a 3000 B] rfl ?_
    refine s_aload_n X dX6_octet_21 rfl 0 rfl ?_
    refine s_get X dX6_octet_22 fl_X6_43 0 rfl rfl ?_
    refine s_if_le X 32 dX6_octet_25 (by decide) (by omega) (fun c25 => ?_) (fun c25 => ?_)
    · refine s_aload_n X dX6_octet_32 rfl 0 rfl ?_
      refine s_get X dX6_octet_33 fl_X6_7 0 rfl rfl ?_
      refine s_iload_n X dX6_octet_36 rfl 1 rfl ?_
      refine s_bald X dX6_octet_37 1 rfl (by omega) ?_
      refine s_cast (st' := [.int (iI (sg8 (B i.toNat)))]) (by rw [sb_sg (hBb _)]) rfl rfl ?_
      refine s_iret X Y dX6_octet_38 (sg8_nar (hBb _)) ?_
      refine ⟨x, rfl, ?_⟩
      · (first | (exfalso; omega) | (first | exact Or.inr ⟨by omega, by omega⟩ | exact Or.inl ⟨by omega, by omega, by omega, rfl⟩))
    · refine s_iconst X dX6_octet_28 ?_
      refine s_goto X 38 dX6_octet_29 (by decide) ?_
      refine s_iret X Y dX6_octet_38 (rfl) ?_
      refine ⟨x, rfl, ?_⟩
      · (first | (exfalso; omega) | (first | exact Or.inr ⟨by omega, by omega⟩ | exact Or.inl ⟨by omega, by omega, by omega, rfl⟩))
  refine s_aload_n X dX6_octet_0 rfl 0 rfl ?_
  refine s_iload_n X dX6_octet_1 rfl 1 rfl ?_
  refine s_if_lt X 17 dX6_octet_2 (by decide) (by omega) (fun c2 => ?_) (fun c2 => ?_)
  · refine s_iconst X dX6_octet_17 ?_
    exact j18 1 (by omega)
  · refine s_iload_n X dX6_octet_5 rfl 1 rfl ?_
    refine s_aload_n X dX6_octet_6 rfl 0 rfl ?_
    refine s_get X dX6_octet_7 fl_X6_40 0 rfl rfl ?_
    refine s_icmp_ge X 17 dX6_octet_10 (by decide) (by omega) (fun c10 => ?_) (fun c10 => ?_)
    · refine s_iconst X dX6_octet_17 ?_
      exact j18 1 (by omega)
    · refine s_iconst X dX6_octet_13 ?_
      refine s_goto X 18 dX6_octet_14 (by decide) ?_
      exact j18 0 (by omega)
