set_option maxRecDepth 100000 in
set_option maxHeartbeats 4000000 in
theorem c_X6_read (l : Launch) (G : GX) (o : Nat) (a : Nat) (po : Nat) (xt : Nat) (xi : Nat) (xd : Nat) (yt : Nat) (yi : Nat) (yd : Nat) (th : Int) (n : Int) (e : Int) (dn : Int) (at9 : Int) (dp : Int) (kd : Int) (wh : Int) (pl : Int) (base : Int) (sg : Int) (row : Int) (ror : Int) (np : Int) (nw : Int) (nb : Int) (ns : Int) (nrw : Int) (nir : Int) (inf9 : Int) (re : UInt64) (nr : UInt64) (B : Nat → Nat) (t : Nat → Nat) (qi : Nat → Int) (qd : Nat → UInt64) (hn : 0 ≤ n ∧ n ≤ 3000) (hBb : ∀ j, B j < 256) (he : e = 0 ∨ e = 1) (hap : 0 ≤ at9 ∧ at9 < n) (hnp : np = at9) (hns0 : ns = 0) (htb : ∀ j, t j < 256) (hif0 : inf9 = 0) (hnb : nb = 0) (hdp : 0 ≤ dp ∧ dp ≤ 20) (hni : nir = 0 ∨ nir = 1) (hc9 : ¬ isW (bA B n at9) ∧ ¬ (bA B n at9) = 37) : CtI l G yX6_read cX6_read 2 (some .int) ({ frames := 5, cells := 0, slots := 0, locals := 127 } : Room) [.ref o, .int (iI (bA B n at9))] [oMo o th n a e dn at9 dp po kd wh re pl base sg xt row ror xi xd np nw nr nb ns yt nrw nir yi yd inf9, aB G a 3000 B, aB G yt 400 t, aI G yi 60 qi, aF G yd 60 qd] (fun (z9 : Int) (w9 : va_W) => ∃ (at2 : Int), ∃ (np2 : Int), ∃ (nw2 : Int), ∃ (nb2 : Int), ∃ (ns2 : Int), ∃ (nrw2 : Int), ∃ (nir2 : Int), ∃ (inf2 : Int), ∃ (nr2 : UInt64), ∃ (t2 : Nat → Nat), ∃ (qi2 : Nat → Int), ∃ (qd2 : Nat → UInt64), z9 = (rtN B n e at9 dp (bA B n at9)) ∧ w9 = [oMo o th n a e dn at2 dp po kd wh re pl base sg xt row ror xi xd np2 nw2 nr2 nb2 ns2 yt nrw2 nir2 yi yd inf2, aB G a 3000 B, aB G yt 400 t2, aI G yi 60 qi2, aF G yd 60 qd2] ∧ (z9 ≠ 0 → at2 = rtF B n at9 (bA B n at9) ∧ np2 = rtP B n at9 (bA B n at9)) ∧ (0 < z9 → RdG B n e at9 (bA B n at9) base z9 nw2 nb2 ns2 nrw2 nir2 nr2 t2 qi2 qd2) ∧ (∀ j, t2 j < 256) ∧ (nir2 = 0 ∨ nir2 = 1) ∧ (z9 = 1 → 0 ≤ nb2 ∧ nb2 ≤ 36)) := by
  intro sz
  refine met_of (fun wc sz => va_Qi (qI _) (posW G wc sz) (va_A wc sz)) (by decide) [(0, .ref o), (1, .int (iI (bA B n at9)))] rfl (Nat.le_of_ble_eq_true rfl) (fun K hK9 hnm X Y => ?_)
  subst hK9
  replace Y : RI K G (some .int) 0 0 _ := Y
  have hcr := bA_C n at9 hBb
  refine s_iload_n X dX6_read_0 rfl 1 rfl ?_
  refine s_callIS X lk_X6_105 [] [0, 1, 2, 3, 4] (wr := [oMo o th n a e dn at9 dp po kd wh re pl base sg xt row ror xi xd np nw nr nb ns yt nrw nir yi yd inf9, aB G a 3000 B, aB G yt 400 t, aI G yi 60 qi, aF G yd 60 qd]) rfl rfl (by decide) (by decide) (by decide) (c_X6_isPlain (kl K) G (bA B n at9) (by omega)) dX6_read_1 rfl rfl (Nat.le_of_ble_eq_true rfl) (by decide) (fun z1 w1 h1 => ?_)
  obtain ⟨rfl, rfl⟩ := h1
  show SW K G 2 0 0 4 [(0, .ref o), (1, .int (iI (bA B n at9)))] [.int (iI (tf (isP (bA B n at9))))] [oMo o th n a e dn at9 dp po kd wh re pl base sg xt row ror xi xd np nw nr nb ns yt nrw nir yi yd inf9, aB G a 3000 B, aB G yt 400 t, aI G yi 60 qi, aF G yd 60 qd]
  refine s_tf_eq X 12 dX6_read_4 (by decide) (fun c4 => ?_) (fun c4 => ?_)
  · refine s_iload_n X dX6_read_12 rfl 1 rfl ?_
    refine s_bipush 47 X dX6_read_13 (by decide) ?_
    refine s_icmp_ne X 23 dX6_read_15 (by decide) (by omega) (fun c15 => ?_) (fun c15 => ?_)
    · refine s_iload_n X dX6_read_23 rfl 1 rfl ?_
      refine s_bipush 40 X dX6_read_24 (by decide) ?_
      refine s_icmp_ne X 34 dX6_read_26 (by decide) (by omega) (fun c26 => ?_) (fun c26 => ?_)
      · refine s_iload_n X dX6_read_34 rfl 1 rfl ?_
        refine s_bipush 60 X dX6_read_35 (by decide) ?_
        refine s_icmp_ne X 45 dX6_read_37 (by decide) (by omega) (fun c37 => ?_) (fun c37 => ?_)
        · refine s_iload_n X dX6_read_45 rfl 1 rfl ?_
          refine s_bipush 127 X dX6_read_46 (by decide) ?_
          refine s_icmp_le X 59 dX6_read_48 (by decide) (by omega) (fun c48 => ?_) (fun c48 => ?_)
          · refine s_aload_n X dX6_read_59 rfl 0 rfl ?_
            refine s_iload_n X dX6_read_60 rfl 1 rfl ?_
            refine s_callIV X lk_X6_230 [0, 1] [2, 3, 4] (wr := [aB G yt 400 t, aI G yi 60 qi, aF G yd 60 qd]) rfl rfl (by decide) (by decide) (by decide) (c_X6_bracket (kl K) G o a po xt xi xd yt yi yd th n e dn at9 dp kd wh pl base sg row ror np nw nb ns nrw nir inf9 re nr B (by assumption) (by assumption) (by omega) (by omega) (by omega) (by omega)) rfl rfl dX6_read_61 rfl rfl (Nat.le_of_ble_eq_true rfl) (by decide) (fun z2 w2 h2 => ?_)
            obtain ⟨at22, rfl, rfl, f2_0⟩ := h2
            show SW K G 2 0 0 64 [(0, .ref o), (1, .int (iI (bA B n at9)))] [.int (iI (rtN B n e at9 dp (bA B n at9)))] [aB G yt 400 t, aI G yi 60 qi, aF G yd 60 qd, oMo o th n a e dn at22 dp po kd wh re pl base sg xt row ror xi xd np nw nr nb ns yt nrw nir yi yd inf9, aB G a 3000 B]
            have g0 := f2_0
            refine s_perm (ws' := [oMo o th n a e dn at22 dp po kd wh re pl base sg xt row ror xi xd np nw nr nb ns yt nrw nir yi yd inf9, aB G a 3000 B, aB G yt 400 t, aI G yi 60 qi, aF G yd 60 qd]) [3, 4, 0, 1, 2] (by decide) rfl rfl ?_
            refine s_iret X Y dX6_read_64 (rfl) ?_
            refine ⟨at22, np, nw, nb, ns, nrw, nir, inf9, nr, t, qi, qd, ?_, rfl, ?_, ?_, ?_, ?_, ?_⟩
            · (first | (exfalso; omega) | (rfl))
            · (first | (exfalso; omega) | (have hbk : (bA B n at9) = 91 ∨ (bA B n at9) = 93 ∨ (bA B n at9) = 123 ∨ (bA B n at9) = 125 ∨ (bA B n at9) = 41 ∨ (bA B n at9) = 62 := (by omega); intro h; rw [(br_all (e := e) (base := base) (br := dp) hbk).1]; exact ⟨g0 h, hnp⟩))
            · (first | (exfalso; omega) | (have hbk : (bA B n at9) = 91 ∨ (bA B n at9) = 93 ∨ (bA B n at9) = 123 ∨ (bA B n at9) = 125 ∨ (bA B n at9) = 41 ∨ (bA B n at9) = 62 := (by omega); intro h; exact RdG_br hbk h))
            · (first | (exfalso; omega) | (exact htb))
            · (first | (exfalso; omega) | (omega))
            · (first | (exfalso; omega) | (intro _; omega))
          · refine s_aload_n X dX6_read_51 rfl 0 rfl ?_
            refine s_iload_n X dX6_read_52 rfl 1 rfl ?_
            refine s_callIV X lk_X6_227 [0, 1, 2, 3, 4] [] (wr := []) rfl rfl (by decide) (by decide) (by decide) (c_X6_binaryToken (kl K) G o a po xt xi xd yt yi yd th n e dn at9 dp kd wh pl base sg row ror np nw nb ns nrw nir inf9 re nr B t qi qd (bA B n at9) (by assumption) (by assumption) (by omega) (by omega) (by omega) (by omega) (by assumption) (by omega) (by omega)) rfl rfl dX6_read_53 rfl rfl (Nat.le_of_ble_eq_true rfl) (by decide) (fun z3 w3 h3 => ?_)
            obtain ⟨at23, np23, nw23, ns23, nrw23, nir23, inf23, nr23, t23, qi23, qd23, rfl, rfl, f3_0, f3_1, f3_2, f3_3⟩ := h3
            show SW K G 2 0 0 56 [(0, .ref o), (1, .int (iI (bA B n at9)))] [.int (iI (biA B n e at9 (bA B n at9)))] [oMo o th n a e dn at23 dp po kd wh re pl base sg xt row ror xi xd np23 nw23 nr23 nb ns23 yt nrw23 nir23 yi yd inf23, aB G a 3000 B, aB G yt 400 t23, aI G yi 60 qi23, aF G yd 60 qd23]
            have g0 := f3_0
            have g1 := f3_1
            have g2 := f3_2
            have g3 := f3_3
            refine s_goto X 64 dX6_read_56 (by decide) ?_
            refine s_iret X Y dX6_read_64 (rfl) ?_
            refine ⟨at23, np23, nw23, nb, ns23, nrw23, nir23, inf23, nr23, t23, qi23, qd23, ?_, rfl, ?_, ?_, ?_, ?_, ?_⟩
            · (first | (exfalso; omega) | (have hbn : isB (bA B n at9) := (by constructor <;> omega); have hr := rt_bin hbn B n e at9 dp base; exact hr.1.symm))
            · (first | (exfalso; omega) | (have hbn : isB (bA B n at9) := (by constructor <;> omega); have hr := rt_bin hbn B n e at9 dp base; intro h; rw [hr.2.1, hr.2.2.1]; exact g0 h))
            · (first | (exfalso; omega) | (have hbn : isB (bA B n at9) := (by constructor <;> omega); have hr := rt_bin hbn B n e at9 dp base; intro h; exact RdG_bin hbn hnb rfl h (g1 h)))
            · (first | (exfalso; omega) | (exact g2))
            · (first | (exfalso; omega) | (omega))
            · (first | (exfalso; omega) | (intro _; omega))
        · refine s_aload_n X dX6_read_40 rfl 0 rfl ?_
          refine s_callIV X lk_X6_224 [0, 1, 2] [3, 4] (wr := [aI G yi 60 qi, aF G yd 60 qd]) rfl rfl (by decide) (by decide) (by decide) (c_X6_angled (kl K) G o a po xt xi xd yt yi yd th n e dn at9 dp kd wh pl base sg row ror np nw nb ns nrw nir inf9 re nr B t (by assumption) (by assumption) (by omega) (by omega) (by omega) (by assumption) (by omega)) rfl rfl dX6_read_41 rfl rfl (Nat.le_of_ble_eq_true rfl) (by decide) (fun z4 w4 h4 => ?_)
          obtain ⟨at24, np24, nw24, ns24, t24, rfl, f4_0, f4_1, f4_2, f4_3⟩ := h4
          show SW K G 2 0 0 44 [(0, .ref o), (1, .int (iI (bA B n at9)))] [.int (iI z4)] [aI G yi 60 qi, aF G yd 60 qd, oMo o th n a e dn at24 dp po kd wh re pl base sg xt row ror xi xd np24 nw24 nr nb ns24 yt nrw nir yi yd inf9, aB G a 3000 B, aB G yt 400 t24]
          have g0 := f4_0
          have g1 := f4_1
          have g2 := f4_2
          have g3 := f4_3
          refine s_perm (ws' := [oMo o th n a e dn at24 dp po kd wh re pl base sg xt row ror xi xd np24 nw24 nr nb ns24 yt nrw nir yi yd inf9, aB G a 3000 B, aB G yt 400 t24, aI G yi 60 qi, aF G yd 60 qd]) [2, 3, 4, 0, 1] (by decide) rfl rfl ?_
          refine s_iret X Y dX6_read_44 (rfl) ?_
          refine ⟨at24, np24, nw24, nb, ns24, nrw, nir, inf9, nr, t24, qi, qd, ?_, rfl, ?_, ?_, ?_, ?_, ?_⟩
          · (first | (exfalso; omega) | (have e9 : (bA B n at9) = 60 := (by omega); have hr := rt_60 B n e at9 dp base; rw [e9]; rw [hr.1]; exact g0))
          · (first | (exfalso; omega) | (have e9 : (bA B n at9) = 60 := (by omega); have hr := rt_60 B n e at9 dp base; rw [e9]; intro h; rw [hr.2.1, hr.2.2.1]; exact g1 h))
          · (first | (exfalso; omega) | (have e9 : (bA B n at9) = 60 := (by omega); have hr := rt_60 B n e at9 dp base; rw [e9]; intro h; exact RdG_ls g0 h g2))
          · (first | (exfalso; omega) | (exact g3))
          · (first | (exfalso; omega) | (exact hni))
          · (first | (exfalso; omega) | (intro _; omega))
      · refine s_aload_n X dX6_read_29 rfl 0 rfl ?_
        refine s_callIV X lk_X6_221 [0, 1, 2] [3, 4] (wr := [aI G yi 60 qi, aF G yd 60 qd]) rfl rfl (by decide) (by decide) (by decide) (c_X6_round (kl K) G o a po xt xi xd yt yi yd th n e dn at9 dp kd wh pl base sg row ror np nw nb ns nrw nir inf9 re nr B t (by assumption) (by assumption) (by omega) (by omega) (by omega) (by assumption)) rfl rfl dX6_read_30 rfl rfl (Nat.le_of_ble_eq_true rfl) (by decide) (fun z5 w5 h5 => ?_)
        obtain ⟨at25, np25, nw25, ns25, t25, rfl, f5_0, f5_1, f5_2, f5_3⟩ := h5
        show SW K G 2 0 0 33 [(0, .ref o), (1, .int (iI (bA B n at9)))] [.int (iI z5)] [aI G yi 60 qi, aF G yd 60 qd, oMo o th n a e dn at25 dp po kd wh re pl base sg xt row ror xi xd np25 nw25 nr nb ns25 yt nrw nir yi yd inf9, aB G a 3000 B, aB G yt 400 t25]
        have g0 := f5_0
        have g1 := f5_1
        have g2 := f5_2
        have g3 := f5_3
        refine s_perm (ws' := [oMo o th n a e dn at25 dp po kd wh re pl base sg xt row ror xi xd np25 nw25 nr nb ns25 yt nrw nir yi yd inf9, aB G a 3000 B, aB G yt 400 t25, aI G yi 60 qi, aF G yd 60 qd]) [2, 3, 4, 0, 1] (by decide) rfl rfl ?_
        refine s_iret X Y dX6_read_33 (rfl) ?_
        refine ⟨at25, np25, nw25, nb, ns25, nrw, nir, inf9, nr, t25, qi, qd, ?_, rfl, ?_, ?_, ?_, ?_, ?_⟩
        · (first | (exfalso; omega) | (have e9 : (bA B n at9) = 40 := (by omega); have hr := rt_40 B n e at9 dp base; rw [e9]; rw [hr.1]; exact g0))
        · (first | (exfalso; omega) | (have e9 : (bA B n at9) = 40 := (by omega); have hr := rt_40 B n e at9 dp base; rw [e9]; intro h; rw [hr.2.1, hr.2.2.1]; have h9 := g1 h; rw [hnp] at h9; exact h9))
        · (first | (exfalso; omega) | (have e9 : (bA B n at9) = 40 := (by omega); have hr := rt_40 B n e at9 dp base; rw [e9]; intro h; exact RdG_rd g0 h g2))
        · (first | (exfalso; omega) | (exact g3))
        · (first | (exfalso; omega) | (exact hni))
        · (first | (exfalso; omega) | (intro _; omega))
    · refine s_aload_n X dX6_read_18 rfl 0 rfl ?_
      refine s_callIV X lk_X6_218 [0, 1, 2] [3, 4] (wr := [aI G yi 60 qi, aF G yd 60 qd]) rfl rfl (by decide) (by decide) (by decide) (c_X6_slashed (kl K) G o a po xt xi xd yt yi yd th n e dn at9 dp kd wh pl base sg row ror np nw nb ns nrw nir inf9 re nr B t (by assumption) (by assumption) (by omega) (by omega) (by assumption)) rfl rfl dX6_read_19 rfl rfl (Nat.le_of_ble_eq_true rfl) (by decide) (fun z6 w6 h6 => ?_)
      obtain ⟨at26, nw26, ns26, t26, rfl, rfl, f6_0, f6_1, f6_2⟩ := h6
      show SW K G 2 0 0 22 [(0, .ref o), (1, .int (iI (bA B n at9)))] [.int (iI (rtA (we B n (slS B n at9)) n e (slS B n at9) (slK B n at9)))] [aI G yi 60 qi, aF G yd 60 qd, oMo o th n a e dn at26 dp po kd wh re pl base sg xt row ror xi xd np nw26 nr nb ns26 yt nrw nir yi yd inf9, aB G a 3000 B, aB G yt 400 t26]
      have g0 := f6_0
      have g1 := f6_1
      have g2 := f6_2
      refine s_perm (ws' := [oMo o th n a e dn at26 dp po kd wh re pl base sg xt row ror xi xd np nw26 nr nb ns26 yt nrw nir yi yd inf9, aB G a 3000 B, aB G yt 400 t26, aI G yi 60 qi, aF G yd 60 qd]) [2, 3, 4, 0, 1] (by decide) rfl rfl ?_
      refine s_iret X Y dX6_read_22 (rfl) ?_
      refine ⟨at26, np, nw26, nb, ns26, nrw, nir, inf9, nr, t26, qi, qd, ?_, rfl, ?_, ?_, ?_, ?_, ?_⟩
      · (first | (exfalso; omega) | (have e9 : (bA B n at9) = 47 := (by omega); have hr := rt_47 B n e at9 dp base; rw [e9]; exact hr.1.symm))
      · (first | (exfalso; omega) | (have e9 : (bA B n at9) = 47 := (by omega); have hr := rt_47 B n e at9 dp base; rw [e9]; intro h; rw [hr.2.1, hr.2.2.1]; exact ⟨g0 h, hnp⟩))
      · (first | (exfalso; omega) | (have e9 : (bA B n at9) = 47 := (by omega); have hr := rt_47 B n e at9 dp base; rw [e9]; intro h; exact RdG_sl h (g1 h)))
      · (first | (exfalso; omega) | (exact g2))
      · (first | (exfalso; omega) | (exact hni))
      · (first | (exfalso; omega) | (intro _; omega))
  · refine s_aload_n X dX6_read_7 rfl 0 rfl ?_
    refine s_callIV X lk_X6_215 [0, 1, 2] [3, 4] (wr := [aI G yi 60 qi, aF G yd 60 qd]) rfl rfl (by decide) (by decide) (by decide) (c_X6_anyWord (kl K) G o a po xt xi xd yt yi yd th n e dn at9 dp kd wh pl base sg row ror np nw nb ns nrw nir inf9 re nr B t (by assumption) (by assumption) (by omega) (by omega) (by assumption) (by assumption)) rfl rfl dX6_read_8 rfl rfl (Nat.le_of_ble_eq_true rfl) (by decide) (fun z7 w7 h7 => ?_)
    obtain ⟨nw27, nb27, ns27, nr27, t27, rfl, rfl, f7_0, f7_1, f7_2, f7_3, f7_4⟩ := h7
    show SW K G 2 0 0 11 [(0, .ref o), (1, .int (iI (bA B n at9)))] [.int (iI (wdA B n e at9))] [aI G yi 60 qi, aF G yd 60 qd, oMo o th n a e dn (we B n at9) dp po kd wh re pl base sg xt row ror xi xd np nw27 nr27 nb27 ns27 yt nrw nir yi yd inf9, aB G a 3000 B, aB G yt 400 t27]
    have g0 := f7_0
    have g1 := f7_1
    have g2 := f7_2
    have g3 := f7_3
    have g4 := f7_4
    refine s_perm (ws' := [oMo o th n a e dn (we B n at9) dp po kd wh re pl base sg xt row ror xi xd np nw27 nr27 nb27 ns27 yt nrw nir yi yd inf9, aB G a 3000 B, aB G yt 400 t27, aI G yi 60 qi, aF G yd 60 qd]) [2, 3, 4, 0, 1] (by decide) rfl rfl ?_
    refine s_iret X Y dX6_read_11 (rfl) ?_
    refine ⟨(we B n at9), np, nw27, nb27, ns27, nrw, nir, inf9, nr27, t27, qi, qd, ?_, rfl, ?_, ?_, ?_, ?_, ?_⟩
    · (first | (exfalso; omega) | (have hnt : noT (bA B n at9) := (by refine ⟨?_, ?_, ?_, ?_, ?_, ?_, ?_, ?_, ?_, ?_⟩ <;> omega); exact (rt_def hnt B n e at9 dp base).1.symm))
    · (first | (exfalso; omega) | (have hnt : noT (bA B n at9) := (by refine ⟨?_, ?_, ?_, ?_, ?_, ?_, ?_, ?_, ?_, ?_⟩ <;> omega); intro _; have hr := rt_def hnt B n e at9 dp base; rw [hr.2.1, hr.2.2.1]; exact ⟨rfl, hnp⟩))
    · (first | (exfalso; omega) | (have hnt : noT (bA B n at9) := (by refine ⟨?_, ?_, ?_, ?_, ?_, ?_, ?_, ?_, ?_, ?_⟩ <;> omega); intro h; exact RdG_wd hnt rfl h g0 g1 g2 g3))
    · (first | (exfalso; omega) | (exact g4))
    · (first | (exfalso; omega) | (exact hni))
    · (first | (exfalso; omega) | (intro h; rw [(g0 h).2]; exact wBs_36 h))
set_option maxRecDepth 100000 in
set_option maxHeartbeats 4000000 in
theorem c_X6_passBlanks (l : Launch) (G : GX) (o : Nat) (a : Nat) (po : Nat) (xt : Nat) (xi : Nat) (xd : Nat) (yt : Nat) (yi : Nat) (yd : Nat) (th : Int) (n : Int) (e : Int) (dn : Int) (at9 : Int) (dp : Int) (kd : Int) (wh : Int) (pl : Int) (base : Int) (sg : Int) (row : Int) (ror : Int) (np : Int) (nw : Int) (nb : Int) (ns : Int) (nrw : Int) (nir : Int) (inf9 : Int) (re : UInt64) (nr : UInt64) (B : Nat → Nat) (hn : 0 ≤ n ∧ n ≤ 3000) (hBb : ∀ j, B j < 256) (hdn : 0 ≤ dn ∧ dn ≤ n) : CtV l G yX6_passBlanks cX6_passBlanks 2 none ({ frames := 1, cells := 0, slots := 0, locals := 21 } : Room) [.ref o] [oMo o th n a e dn at9 dp po kd wh re pl base sg xt row ror xi xd np nw nr nb ns yt nrw nir yi yd inf9, aB G a 3000 B] (fun (w9 : va_W) => w9 = [oMo o th n a e dn (nxS B n dn) dp po kd wh re pl base sg xt row ror xi xd np nw nr nb ns yt nrw nir yi yd inf9, aB G a 3000 B]) := by
  intro sz
  refine met_of (fun wc sz => va_Qv _ (posW G wc sz) (va_A wc sz)) (by decide) [(0, .ref o)] rfl (Nat.le_of_ble_eq_true rfl) (fun K hK9 hnm X Y => ?_)
  subst hK9
  replace Y : RV K G none 0 0 _ := Y
  refine s_aload_n X dX6_passBlanks_0 rfl 0 rfl ?_
  refine s_aload_n X dX6_passBlanks_1 rfl 0 rfl ?_
  refine s_get X dX6_passBlanks_2 fl_X6_57 0 rfl rfl ?_
  refine s_put X dX6_passBlanks_5 fl_X6_102 tyX6_ok nmX6 0 rfl rfl (rfl) (rfl) (Nat.le_of_ble_eq_true rfl) [oMo o th n a e dn dn dp po kd wh re pl base sg xt row ror xi xd np nw nr nb ns yt nrw nir yi yd inf9, aB G a 3000 B] rfl ?_
  refine s_iconst X dX6_passBlanks_8 ?_
  refine s_istore_n X dX6_passBlanks_9 rfl [(1, .int (iI 1)), (0, .ref o)] (by decide) rfl ?_
  have lp : ∀ (m9 : Nat) (i : Int) (mo : Int) (h1 : dn ≤ i ∧ i ≤ n) (hm : mo = 1 ∨ (mo = 0 ∧ i = (nxS B n dn))) (h2 : fw B n i 0 = (nxS B n dn)), (2 * (n - i) + mo).toNat < m9 → SW K G 2 0 0 10 [(1, .int (iI mo)), (0, .ref o)] [] [oMo o th n a e dn i dp po kd wh re pl base sg xt row ror xi xd np nw nr nb ns yt nrw nir yi yd inf9, aB G a 3000 B] := by
    intro m9
    induction m9 with
    | zero => intro i mo h1 hm h2 hm9; exact absurd hm9 (Nat.not_lt_zero _)
    | succ m9 ih9 =>
      intro i mo h1 hm h2 hm9
      refine s_iload_n X dX6_passBlanks_10 rfl 0 rfl ?_
      refine s_if_eq X 122 dX6_passBlanks_11 (by decide) (by omega) (fun c11 => ?_) (fun c11 => ?_)
      · refine s_vret X Y dX6_passBlanks_122 ?_
        · (first | (exfalso; omega) | (have hi9 := (hm.resolve_left (by omega)).2; rw [hi9]))
      · refine s_aload_n X dX6_passBlanks_14 rfl 1 rfl ?_
        refine s_aload_n X dX6_passBlanks_15 rfl 1 rfl ?_
        refine s_get X dX6_passBlanks_16 fl_X6_102 0 rfl rfl ?_
        refine s_callIV X lk_X6_63 [0, 1] [] (wr := []) rfl rfl (by decide) (by decide) (by decide) (c_X6_byteAt (kl K) G o a po xt xi xd yt yi yd th n e dn i dp kd wh pl base sg row ror np nw nb ns nrw nir inf9 re nr B i (by assumption) (by assumption) (by omega)) rfl rfl dX6_passBlanks_19 rfl rfl (Nat.le_of_ble_eq_true rfl) (by decide) (fun z1 w1 h1 => ?_)
        obtain ⟨rfl, rfl⟩ := h1
        show SW K G 2 0 0 22 [(1, .int (iI mo)), (0, .ref o)] [.int (iI (bA B n i))] [oMo o th n a e dn i dp po kd wh re pl base sg xt row ror xi xd np nw nr nb ns yt nrw nir yi yd inf9, aB G a 3000 B]
        have q2 := bA_C n i (by assumption : ∀ j, B j < 256)
        refine s_callIS X lk_X6_46 [] [0, 1] (wr := [oMo o th n a e dn i dp po kd wh re pl base sg xt row ror xi xd np nw nr nb ns yt nrw nir yi yd inf9, aB G a 3000 B]) rfl rfl (by decide) (by decide) (by decide) (c_X6_isBlank (kl K) G (bA B n i) (by omega)) dX6_passBlanks_22 rfl rfl (Nat.le_of_ble_eq_true rfl) (by decide) (fun z3 w3 h3 => ?_)
        obtain ⟨rfl, rfl⟩ := h3
        show SW K G 2 0 0 25 [(1, .int (iI mo)), (0, .ref o)] [.int (iI (tf (isW (bA B n i))))] [oMo o th n a e dn i dp po kd wh re pl base sg xt row ror xi xd np nw nr nb ns yt nrw nir yi yd inf9, aB G a 3000 B]
        refine s_tf_eq X 41 dX6_passBlanks_25 (by decide) (fun c25 => ?_) (fun c25 => ?_)
        · refine s_aload_n X dX6_passBlanks_41 rfl 1 rfl ?_
          refine s_aload_n X dX6_passBlanks_42 rfl 1 rfl ?_
          refine s_get X dX6_passBlanks_43 fl_X6_102 0 rfl rfl ?_
          refine s_callIV X lk_X6_63 [0, 1] [] (wr := []) rfl rfl (by decide) (by decide) (by decide) (c_X6_byteAt (kl K) G o a po xt xi xd yt yi yd th n e dn i dp kd wh pl base sg row ror np nw nb ns nrw nir inf9 re nr B i (by assumption) (by assumption) (by omega)) rfl rfl dX6_passBlanks_46 rfl rfl (Nat.le_of_ble_eq_true rfl) (by decide) (fun z4 w4 h4 => ?_)
          obtain ⟨rfl, rfl⟩ := h4
          show SW K G 2 0 0 49 [(1, .int (iI mo)), (0, .ref o)] [.int (iI (bA B n i))] [oMo o th n a e dn i dp po kd wh re pl base sg xt row ror xi xd np nw nr nb ns yt nrw nir yi yd inf9, aB G a 3000 B]
          have q5 := bA_C n i (by assumption : ∀ j, B j < 256)
          refine s_bipush 37 X dX6_passBlanks_49 (by decide) ?_
          have ihO := ih9
          refine s_icmp_ne X 117 dX6_passBlanks_51 (by decide) (by omega) (fun c51 => ?_) (fun c51 => ?_)
          · refine s_iconst X dX6_passBlanks_117 ?_
            refine s_istore_n X dX6_passBlanks_118 rfl [(1, .int (iI 0)), (0, .ref o)] (by decide) rfl ?_
            refine s_goto X 10 dX6_passBlanks_119 (by decide) ?_
            exact ih9 i 0 (by omega) (Or.inr ⟨rfl, by rw [← h2, fw_n (by omega) (by assumption) (by omega)]⟩) (h2) (by omega)
          · have lc : ∀ (m9 : Nat) (k : Int) (g1 : i ≤ k ∧ k ≤ n ∧ (k = i → bA B n k = 37)) (h2c : fw B n k 1 = (nxS B n dn)), (n - k).toNat < m9 → SW K G 2 0 0 54 [(1, .int (iI mo)), (0, .ref o)] [] [oMo o th n a e dn k dp po kd wh re pl base sg xt row ror xi xd np nw nr nb ns yt nrw nir yi yd inf9, aB G a 3000 B] := by
              intro m9
              induction m9 with
              | zero => intro k g1 h2c hm9; exact absurd hm9 (Nat.not_lt_zero _)
              | succ m9 ih9 =>
                intro k g1 h2c hm9
                refine s_aload_n X dX6_passBlanks_54 rfl 1 rfl ?_
                refine s_get X dX6_passBlanks_55 fl_X6_102 0 rfl rfl ?_
                refine s_aload_n X dX6_passBlanks_58 rfl 1 rfl ?_
                refine s_get X dX6_passBlanks_59 fl_X6_40 0 rfl rfl ?_
                refine s_icmp_ge X 10 dX6_passBlanks_62 (by decide) (by omega) (fun c62 => ?_) (fun c62 => ?_)
                · exact ihO k mo (by omega) (by omega) (by rw [← h2c]; exact (fw_e (by omega)).symm) (by omega)
                · refine s_aload_n X dX6_passBlanks_65 rfl 1 rfl ?_
                  refine s_aload_n X dX6_passBlanks_66 rfl 1 rfl ?_
                  refine s_get X dX6_passBlanks_67 fl_X6_102 0 rfl rfl ?_
                  refine s_callIV X lk_X6_63 [0, 1] [] (wr := []) rfl rfl (by decide) (by decide) (by decide) (c_X6_byteAt (kl K) G o a po xt xi xd yt yi yd th n e dn k dp kd wh pl base sg row ror np nw nb ns nrw nir inf9 re nr B k (by assumption) (by assumption) (by omega)) rfl rfl dX6_passBlanks_70 rfl rfl (Nat.le_of_ble_eq_true rfl) (by decide) (fun z6 w6 h6 => ?_)
                  obtain ⟨rfl, rfl⟩ := h6
                  show SW K G 2 0 0 73 [(1, .int (iI mo)), (0, .ref o)] [.int (iI (bA B n k))] [oMo o th n a e dn k dp po kd wh re pl base sg xt row ror xi xd np nw nr nb ns yt nrw nir yi yd inf9, aB G a 3000 B]
                  have q7 := bA_C n k (by assumption : ∀ j, B j < 256)
                  refine s_bipush 10 X dX6_passBlanks_73 (by decide) ?_
                  refine s_icmp_eq X 10 dX6_passBlanks_75 (by decide) (by omega) (fun c75 => ?_) (fun c75 => ?_)
                  · exact ihO k mo (by omega) (by omega) (by rw [← h2c]; exact (fw_e (by omega)).symm) (by omega)
                  · refine s_aload_n X dX6_passBlanks_78 rfl 1 rfl ?_
                    refine s_aload_n X dX6_passBlanks_79 rfl 1 rfl ?_
                    refine s_get X dX6_passBlanks_80 fl_X6_102 0 rfl rfl ?_
                    refine s_callIV X lk_X6_63 [0, 1] [] (wr := []) rfl rfl (by decide) (by decide) (by decide) (c_X6_byteAt (kl K) G o a po xt xi xd yt yi yd th n e dn k dp kd wh pl base sg row ror np nw nb ns nrw nir inf9 re nr B k (by assumption) (by assumption) (by omega)) rfl rfl dX6_passBlanks_83 rfl rfl (Nat.le_of_ble_eq_true rfl) (by decide) (fun z8 w8 h8 => ?_)
                    obtain ⟨rfl, rfl⟩ := h8
                    show SW K G 2 0 0 86 [(1, .int (iI mo)), (0, .ref o)] [.int (iI (bA B n k))] [oMo o th n a e dn k dp po kd wh re pl base sg xt row ror xi xd np nw nr nb ns yt nrw nir yi yd inf9, aB G a 3000 B]
                    have q9 := bA_C n k (by assumption : ∀ j, B j < 256)
                    refine s_bipush 12 X dX6_passBlanks_86 (by decide) ?_
                    refine s_icmp_eq X 10 dX6_passBlanks_88 (by decide) (by omega) (fun c88 => ?_) (fun c88 => ?_)
                    · exact ihO k mo (by omega) (by omega) (by rw [← h2c]; exact (fw_e (by omega)).symm) (by omega)
                    · refine s_aload_n X dX6_passBlanks_91 rfl 1 rfl ?_
                      refine s_aload_n X dX6_passBlanks_92 rfl 1 rfl ?_
                      refine s_get X dX6_passBlanks_93 fl_X6_102 0 rfl rfl ?_
                      refine s_callIV X lk_X6_63 [0, 1] [] (wr := []) rfl rfl (by decide) (by decide) (by decide) (c_X6_byteAt (kl K) G o a po xt xi xd yt yi yd th n e dn k dp kd wh pl base sg row ror np nw nb ns nrw nir inf9 re nr B k (by assumption) (by assumption) (by omega)) rfl rfl dX6_passBlanks_96 rfl rfl (Nat.le_of_ble_eq_true rfl) (by decide) (fun z10 w10 h10 => ?_)
                      obtain ⟨rfl, rfl⟩ := h10
                      show SW K G 2 0 0 99 [(1, .int (iI mo)), (0, .ref o)] [.int (iI (bA B n k))] [oMo o th n a e dn k dp po kd wh re pl base sg xt row ror xi xd np nw nr nb ns yt nrw nir yi yd inf9, aB G a 3000 B]
                      have q11 := bA_C n k (by assumption : ∀ j, B j < 256)
                      refine s_bipush 13 X dX6_passBlanks_99 (by decide) ?_
                      refine s_icmp_eq X 10 dX6_passBlanks_101 (by decide) (by omega) (fun c101 => ?_) (fun c101 => ?_)
                      · exact ihO k mo (by omega) (by omega) (by rw [← h2c]; exact (fw_e (by omega)).symm) (by omega)
                      · refine s_aload_n X dX6_passBlanks_104 rfl 1 rfl ?_
                        refine s_dup X dX6_passBlanks_105 rfl ?_
                        refine s_get X dX6_passBlanks_106 fl_X6_102 0 rfl rfl ?_
                        refine s_iconst X dX6_passBlanks_109 ?_
                        refine s_iadd X dX6_passBlanks_110 ?_
                        refine s_put X dX6_passBlanks_111 fl_X6_102 tyX6_ok nmX6 0 rfl rfl (rfl) (rfl) (Nat.le_of_ble_eq_true rfl) [oMo o th n a e dn (k + 1) dp po kd wh re pl base sg xt row ror xi xd np nw nr nb ns yt nrw nir yi yd inf9, aB G a 3000 B] rfl ?_
                        refine s_goto X 54 dX6_passBlanks_114 (by decide) ?_
                        exact ih9 (k + 1) (by omega) (by rw [← h2c]; exact (fw_1 (by omega) (by omega)).symm) (by omega)
            exact lc _ i (by omega) (by rw [← h2]; exact (fw_c (by omega) (by assumption)).symm) (Nat.lt_succ_self _)
        · refine s_aload_n X dX6_passBlanks_28 rfl 1 rfl ?_
          refine s_dup X dX6_passBlanks_29 rfl ?_
          refine s_get X dX6_passBlanks_30 fl_X6_102 0 rfl rfl ?_
          refine s_iconst X dX6_passBlanks_33 ?_
          refine s_iadd X dX6_passBlanks_34 ?_
          refine s_put X dX6_passBlanks_35 fl_X6_102 tyX6_ok nmX6 0 rfl rfl (rfl) (rfl) (Nat.le_of_ble_eq_true rfl) [oMo o th n a e dn (i + 1) dp po kd wh re pl base sg xt row ror xi xd np nw nr nb ns yt nrw nir yi yd inf9, aB G a 3000 B] rfl ?_
          refine s_goto X 10 dX6_passBlanks_38 (by decide) ?_
          exact ih9 (i + 1) mo (by omega) (by omega) (by rw [← h2]; exact (fw_w (by omega) (by assumption)).symm) (by omega)
  exact lp _ dn 1 (by omega) (Or.inl rfl) (rfl) (Nat.lt_succ_self _)
set_option maxRecDepth 100000 in
set_option maxHeartbeats 4000000 in
theorem c_X6_keep (l : Launch) (G : GX) (o : Nat) (a : Nat) (po : Nat) (xt : Nat) (xi : Nat) (xd : Nat) (yt : Nat) (yi : Nat) (yd : Nat) (th : Int) (n : Int) (e : Int) (dn : Int) (at9 : Int) (dp : Int) (kd : Int) (wh : Int) (pl : Int) (base : Int) (sg : Int) (row : Int) (ror : Int) (np : Int) (nw : Int) (nb : Int) (ns : Int) (nrw : Int) (nir : Int) (inf9 : Int) (re : UInt64) (nr : UInt64) (t : Nat → Nat) (tx : Nat → Nat) (qi : Nat → Int) (qd : Nat → UInt64) (xi9 : Nat → Int) (opf : Nat → Int) (xd9 : Nat → UInt64) (kz : Int) (hkz : 1 ≤ kz ∧ kz ≤ 16) (hns4 : 3 ≤ kz ∧ kz ≤ 6 → 0 ≤ ns ∧ ns ≤ 400) (hnrw : kz = 16 → 0 ≤ nrw ∧ nrw ≤ 60) (hdk : 0 ≤ dp ∧ dp ≤ 20 ∧ (kz = 9 → dp < 20)) (hni : nir = 0 ∨ nir = 1) (hnb36 : kz = 1 → 0 ≤ nb ∧ nb ≤ 36) (htb : ∀ j, t j < 256) (htxb : ∀ j, tx j < 256) : CtV l G yX6_keep cX6_keep 3 none ({ frames := 0, cells := 0, slots := 0, locals := 0 } : Room) [.ref o, .int (iI kz)] [oMo o th n a e dn at9 dp po kd wh re pl base sg xt row ror xi xd np nw nr nb ns yt nrw nir yi yd inf9, aB G xt 400 tx, aB G yt 400 t, aI G xi 60 xi9, aF G xd 60 xd9, aI G yi 60 qi, aF G yd 60 qd, aI G po 20 opf] (fun (w9 : va_W) => ∃ (wh2 : Int), ∃ (sg2 : Int), ∃ (row2 : Int), ∃ (base2 : Int), ∃ (dp2 : Int), ∃ (re2 : UInt64), ∃ (tx2 : Nat → Nat), ∃ (xi2 : Nat → Int), ∃ (op2 : Nat → Int), ∃ (xd2 : Nat → UInt64), w9 = [oMo o th n a e dn at9 dp2 po kz wh2 re2 pl base2 sg2 xt row2 nir xi xd np nw nr nb ns yt nrw nir yi yd inf9, aB G xt 400 tx2, aB G yt 400 t, aI G xi 60 xi2, aF G xd 60 xd2, aI G yi 60 qi, aF G yd 60 qd, aI G po 20 op2] ∧ (wh2 = (if kz = 2 ∨ (7 ≤ kz ∧ kz ≤ 12) then 0 else nw)) ∧ (re2 = (if kz = 2 then nr else FP.dconst0)) ∧ (sg2 = (if 3 ≤ kz ∧ kz ≤ 6 then ns else 0)) ∧ (∀ j : Nat, (j : Int) < sg2 → tx2 j = t j) ∧ (∀ j, tx2 j < 256) ∧ (row2 = (if kz = 16 then nrw else 0)) ∧ (∀ j : Int, 0 ≤ j → j < row2 → xi2 j.toNat = qi j.toNat ∧ xd2 j.toNat = qd j.toNat) ∧ (base2 = (if kz = 1 ∧ 0 < nb then nb else base)) ∧ (dp2 = (if kz = 9 then dp + 1 else if kz = 10 then dp - 1 else dp)) ∧ (op2 = (if kz = 9 then uI opf dp.toNat np else opf))) := by
  intro sz
  refine met_of (fun wc sz => va_Qv _ (posW G wc sz) (va_A wc sz)) (by decide) [(0, .ref o), (1, .int (iI kz))] rfl (Nat.le_of_ble_eq_true rfl) (fun K hK9 hnm X Y => ?_)
  subst hK9
  replace Y : RV K G none 0 0 _ := Y
  refine s_aload_n X dX6_keep_0 rfl 0 rfl ?_
  refine s_iload_n X dX6_keep_1 rfl 1 rfl ?_
  refine s_put X dX6_keep_2 fl_X6_233 tyX6_ok nmX6 0 rfl rfl (rfl) (rfl) (Nat.le_of_ble_eq_true rfl) [oMo o th n a e dn at9 dp po kz wh re pl base sg xt row ror xi xd np nw nr nb ns yt nrw nir yi yd inf9, aB G xt 400 tx, aB G yt 400 t, aI G xi 60 xi9, aF G xd 60 xd9, aI G yi 60 qi, aF G yd 60 qd, aI G po 20 opf] rfl ?_
  have j31 : ∀ (w9 : Int) (hw9 : w9 = (if kz = 2 ∨ (7 ≤ kz ∧ kz ≤ 12) then 0 else nw)), SW K G 3 0 0 31 [(0, .ref o), (1, .int (iI kz))] [.long (lI w9), .ref o] [oMo o th n a e dn at9 dp po kz wh re pl base sg xt row ror xi xd np nw nr nb ns yt nrw nir yi yd inf9, aB G xt 400 tx, aB G yt 400 t, aI G xi 60 xi9, aF G xd 60 xd9, aI G yi 60 qi, aF G yd 60 qd, aI G po 20 opf] := by
    intro w9 hw9
    refine s_put X dX6_keep_31 fl_X6_236 tyX6_ok nmX6 0 rfl rfl (rfl) (rfl) (Nat.le_of_ble_eq_true rfl) [oMo o th n a e dn at9 dp po kz w9 re pl base sg xt row ror xi xd np nw nr nb ns yt nrw nir yi yd inf9, aB G xt 400 tx, aB G yt 400 t, aI G xi 60 xi9, aF G xd 60 xd9, aI G yi 60 qi, aF G yd 60 qd, aI G po 20 opf] rfl ?_
    have j48 : ∀ (r9 : UInt64) (hr9 : r9 = (if kz = 2 then nr else FP.dconst0)), SW K G 3 0 0 48 [(0, .ref o), (1, .int (iI kz))] [.double r9, .ref o] [oMo o th n a e dn at9 dp po kz w9 re pl base sg xt row ror xi xd np nw nr nb ns yt nrw nir yi yd inf9, aB G xt 400 tx, aB G yt 400 t, aI G xi 60 xi9, aF G xd 60 xd9, aI G yi 60 qi, aF G yd 60 qd, aI G po 20 opf] := by
      intro r9 hr9
      refine s_put X dX6_keep_48 fl_X6_239 tyX6_ok nmX6 0 rfl rfl (rfl) (rfl) (Nat.le_of_ble_eq_true rfl) [oMo o th n a e dn at9 dp po kz w9 r9 pl base sg xt row ror xi xd np nw nr nb ns yt nrw nir yi yd inf9, aB G xt 400 tx, aB G yt 400 t, aI G xi 60 xi9, aF G xd 60 xd9, aI G yi 60 qi, aF G yd 60 qd, aI G po 20 opf] rfl ?_
      have j71 : ∀ (s9 : Int) (hs9 : s9 = (if 3 ≤ kz ∧ kz ≤ 6 then ns else 0)), SW K G 3 0 0 71 [(0, .ref o), (1, .int (iI kz))] [.int (iI s9), .ref o] [oMo o th n a e dn at9 dp po kz w9 r9 pl base sg xt row ror xi xd np nw nr nb ns yt nrw nir yi yd inf9, aB G xt 400 tx, aB G yt 400 t, aI G xi 60 xi9, aF G xd 60 xd9, aI G yi 60 qi, aF G yd 60 qd, aI G po 20 opf] := by
        intro s9 hs9
        have hs8 : 0 ≤ s9 ∧ s9 ≤ 400 := by
          rw [hs9]; split
          · exact hns4 (by assumption)
          · exact ⟨by decide, by decide⟩
        refine s_put X dX6_keep_71 fl_X6_242 tyX6_ok nmX6 0 rfl rfl (rfl) (rfl) (Nat.le_of_ble_eq_true rfl) [oMo o th n a e dn at9 dp po kz w9 r9 pl base s9 xt row ror xi xd np nw nr nb ns yt nrw nir yi yd inf9, aB G xt 400 tx, aB G yt 400 t, aI G xi 60 xi9, aF G xd 60 xd9, aI G yi 60 qi, aF G yd 60 qd, aI G po 20 opf] rfl ?_
        refine s_iconst X dX6_keep_74 ?_
        refine s_istore_n X dX6_keep_75 rfl [(2, .int (iI 0)), (0, .ref o), (1, .int (iI kz))] (by decide) rfl ?_
        have lp1 : ∀ (m9 : Nat) (q : Int) (tx1 : Nat → Nat) (h1 : 0 ≤ q ∧ q ≤ s9) (h4 : ∀ j : Nat, (j : Int) < q → tx1 j = t j) (h5 : ∀ j, tx1 j < 256), (s9 - q).toNat < m9 → SW K G 3 0 0 76 [(2, .int (iI q)), (0, .ref o), (1, .int (iI kz))] [] [oMo o th n a e dn at9 dp po kz w9 r9 pl base s9 xt row ror xi xd np nw nr nb ns yt nrw nir yi yd inf9, aB G xt 400 tx1, aB G yt 400 t, aI G xi 60 xi9, aF G xd 60 xd9, aI G yi 60 qi, aF G yd 60 qd, aI G po 20 opf] := by
          intro m9
          induction m9 with
          | zero => intro q tx1 h1 h4 h5 hm9; exact absurd hm9 (Nat.not_lt_zero _)
          | succ m9 ih9 =>
            intro q tx1 h1 h4 h5 hm9
            refine s_iload_n X dX6_keep_76 rfl 0 rfl ?_
            refine s_aload_n X dX6_keep_77 rfl 1 rfl ?_
            refine s_get X dX6_keep_78 fl_X6_242 0 rfl rfl ?_
            refine s_icmp_ge X 102 dX6_keep_81 (by decide) (by omega) (fun c81 => ?_) (fun c81 => ?_)
            · have j117 : ∀ (r8 : Int) (hr8 : r8 = (if kz = 16 then nrw else 0)), SW K G 3 0 0 117 [(2, .int (iI q)), (0, .ref o), (1, .int (iI kz))] [.int (iI r8), .ref o] [oMo o th n a e dn at9 dp po kz w9 r9 pl base s9 xt row ror xi xd np nw nr nb ns yt nrw nir yi yd inf9, aB G xt 400 tx1, aB G yt 400 t, aI G xi 60 xi9, aF G xd 60 xd9, aI G yi 60 qi, aF G yd 60 qd, aI G po 20 opf] := by
                intro r8 hr8
                have hr7 : 0 ≤ r8 ∧ r8 ≤ 60 := by
                  rw [hr8]; split
                  · exact hnrw (by assumption)
                  · exact ⟨by decide, by decide⟩
                refine s_put X dX6_keep_117 fl_X6_245 tyX6_ok nmX6 0 rfl rfl (rfl) (rfl) (Nat.le_of_ble_eq_true rfl) [oMo o th n a e dn at9 dp po kz w9 r9 pl base s9 xt r8 ror xi xd np nw nr nb ns yt nrw nir yi yd inf9, aB G xt 400 tx1, aB G yt 400 t, aI G xi 60 xi9, aF G xd 60 xd9, aI G yi 60 qi, aF G yd 60 qd, aI G po 20 opf] rfl ?_
                refine s_aload_n X dX6_keep_120 rfl 1 rfl ?_
                refine s_aload_n X dX6_keep_121 rfl 1 rfl ?_
                refine s_get X dX6_keep_122 fl_X6_183 0 rfl rfl ?_
                refine s_put X dX6_keep_125 fl_X6_248 tyX6_ok nmX6 0 rfl rfl (nb_nar hni) (nb_fit hni) (Nat.le_of_ble_eq_true rfl) [oMo o th n a e dn at9 dp po kz w9 r9 pl base s9 xt r8 nir xi xd np nw nr nb ns yt nrw nir yi yd inf9, aB G xt 400 tx1, aB G yt 400 t, aI G xi 60 xi9, aF G xd 60 xd9, aI G yi 60 qi, aF G yd 60 qd, aI G po 20 opf] rfl ?_
                refine s_iconst X dX6_keep_128 ?_
                refine s_istore_n X dX6_keep_129 rfl [(2, .int (iI 0)), (0, .ref o), (1, .int (iI kz))] (by decide) rfl ?_
                have lp2 : ∀ (m9 : Nat) (k : Int) (xi1 : Nat → Int) (xd1 : Nat → UInt64) (g1 : 0 ≤ k ∧ k ≤ r8) (g4 : ∀ j : Int, 0 ≤ j → j < k → xi1 j.toNat = qi j.toNat ∧ xd1 j.toNat = qd j.toNat), (r8 - k).toNat < m9 → SW K G 3 0 0 130 [(2, .int (iI k)), (0, .ref o), (1, .int (iI kz))] [] [oMo o th n a e dn at9 dp po kz w9 r9 pl base s9 xt r8 nir xi xd np nw nr nb ns yt nrw nir yi yd inf9, aB G xt 400 tx1, aB G yt 400 t, aI G xi 60 xi1, aF G xd 60 xd1, aI G yi 60 qi, aF G yd 60 qd, aI G po 20 opf] := by
                  intro m9
                  induction m9 with
                  | zero => intro k xi1 xd1 g1 g4 hm9; exact absurd hm9 (Nat.not_lt_zero _)
                  | succ m9 ih9 =>
                    intro k xi1 xd1 g1 g4 hm9
                    refine s_iload_n X dX6_keep_130 rfl 0 rfl ?_
                    refine s_aload_n X dX6_keep_131 rfl 1 rfl ?_
                    refine s_get X dX6_keep_132 fl_X6_245 0 rfl rfl ?_
                    refine s_icmp_ge X 168 dX6_keep_135 (by decide) (by omega) (fun c135 => ?_) (fun c135 => ?_)
                    · have j192 : ∀ (b8 : Int) (hb8 : b8 = (if kz = 1 ∧ 0 < nb then nb else base)), SW K G 3 0 0 192 [(2, .int (iI k)), (0, .ref o), (1, .int (iI kz))] [.int (iI b8), .ref o] [oMo o th n a e dn at9 dp po kz w9 r9 pl base s9 xt r8 nir xi xd np nw nr nb ns yt nrw nir yi yd inf9, aB G xt 400 tx1, aB G yt 400 t, aI G xi 60 xi1, aF G xd 60 xd1, aI G yi 60 qi, aF G yd 60 qd, aI G po 20 opf] := by
                        intro b8 hb8
                        refine s_put X dX6_keep_192 fl_X6_17 tyX6_ok nmX6 0 rfl rfl (rfl) (rfl) (Nat.le_of_ble_eq_true rfl) [oMo o th n a e dn at9 dp po kz w9 r9 pl b8 s9 xt r8 nir xi xd np nw nr nb ns yt nrw nir yi yd inf9, aB G xt 400 tx1, aB G yt 400 t, aI G xi 60 xi1, aF G xd 60 xd1, aI G yi 60 qi, aF G yd 60 qd, aI G po 20 opf] rfl ?_
                        have j224 : ∀ (dp1 : Int) (op1 : Nat → Int) (hd1 : dp1 = (if kz = 9 then dp + 1 else dp)) (ho1 : op1 = (if kz = 9 then uI opf dp.toNat np else opf)), SW K G 3 0 0 224 [(2, .int (iI k)), (0, .ref o), (1, .int (iI kz))] [] [oMo o th n a e dn at9 dp1 po kz w9 r9 pl b8 s9 xt r8 nir xi xd np nw nr nb ns yt nrw nir yi yd inf9, aB G xt 400 tx1, aB G yt 400 t, aI G xi 60 xi1, aF G xd 60 xd1, aI G yi 60 qi, aF G yd 60 qd, aI G po 20 op1] := by
                          intro dp1 op1 hd1 ho1
                          have j244 : ∀ (d8 : Int) (hd8 : d8 = (if kz = 9 then dp + 1 else if kz = 10 then dp - 1 else dp)), SW K G 3 0 0 244 [(2, .int (iI k)), (0, .ref o), (1, .int (iI kz))] [.int (iI d8), .ref o] [oMo o th n a e dn at9 dp1 po kz w9 r9 pl b8 s9 xt r8 nir xi xd np nw nr nb ns yt nrw nir yi yd inf9, aB G xt 400 tx1, aB G yt 400 t, aI G xi 60 xi1, aF G xd 60 xd1, aI G yi 60 qi, aF G yd 60 qd, aI G po 20 op1] := by
                            intro d8 hd8
                            refine s_put X dX6_keep_244 fl_X6_212 tyX6_ok nmX6 0 rfl rfl (rfl) (rfl) (Nat.le_of_ble_eq_true rfl) [oMo o th n a e dn at9 d8 po kz w9 r9 pl b8 s9 xt r8 nir xi xd np nw nr nb ns yt nrw nir yi yd inf9, aB G xt 400 tx1, aB G yt 400 t, aI G xi 60 xi1, aF G xd 60 xd1, aI G yi 60 qi, aF G yd 60 qd, aI G po 20 op1] rfl ?_
                            refine s_vret X Y dX6_keep_247 ?_
                            refine ⟨w9, s9, r8, b8, d8, r9, tx1, xi1, op1, xd1, rfl, ?_, ?_, ?_, ?_, ?_, ?_, ?_, ?_, ?_, ?_⟩
                            · (first | (exfalso; omega) | (exact hw9))
                            · (first | (exfalso; omega) | (exact hr9))
                            · (first | (exfalso; omega) | (exact hs9))
                            · (first | (exfalso; omega) | (intro j hj; exact h4 j (by omega)))
                            · (first | (exfalso; omega) | (exact h5))
                            · (first | (exfalso; omega) | (exact hr8))
                            · (first | (exfalso; omega) | (intro j a b; exact g4 j a (by omega)))
                            · (first | (exfalso; omega) | (exact hb8))
                            · (first | (exfalso; omega) | (exact hd8))
                            · (first | (exfalso; omega) | (exact ho1))
                          refine s_aload_n X dX6_keep_224 rfl 1 rfl ?_
                          refine s_iload_n X dX6_keep_225 rfl 2 rfl ?_
                          refine s_bipush 10 X dX6_keep_226 (by decide) ?_
                          refine s_icmp_ne X 240 dX6_keep_228 (by decide) (by omega) (fun c228 => ?_) (fun c228 => ?_)
                          · refine s_aload_n X dX6_keep_240 rfl 1 rfl ?_
                            refine s_get X dX6_keep_241 fl_X6_212 0 rfl rfl ?_
                            exact j244 dp1 (by rw [hd1]; (repeat' split) <;> omega)
                          · refine s_aload_n X dX6_keep_231 rfl 1 rfl ?_
                            refine s_get X dX6_keep_232 fl_X6_212 0 rfl rfl ?_
                            refine s_iconst X dX6_keep_235 ?_
                            refine s_isub X dX6_keep_236 ?_
                            refine s_goto X 244 dX6_keep_237 (by decide) ?_
                            exact j244 (dp1 - 1) (by rw [hd1]; (repeat' split) <;> omega)
                        refine s_iload_n X dX6_keep_195 rfl 2 rfl ?_
                        refine s_bipush 9 X dX6_keep_196 (by decide) ?_
                        refine s_icmp_ne X 224 dX6_keep_198 (by decide) (by omega) (fun c198 => ?_) (fun c198 => ?_)
                        · exact j224 dp opf (by first | rw [if_pos (by omega)] | rw [if_neg (by omega)]) (by first | rw [if_pos (by omega)] | rw [if_neg (by omega)])
                        · refine s_aload_n X dX6_keep_201 rfl 1 rfl ?_
                          refine s_get X dX6_keep_202 fl_X6_13 0 rfl rfl ?_
                          refine s_aload_n X dX6_keep_205 rfl 1 rfl ?_
                          refine s_get X dX6_keep_206 fl_X6_212 0 rfl rfl ?_
                          refine s_aload_n X dX6_keep_209 rfl 1 rfl ?_
                          refine s_get X dX6_keep_210 fl_X6_135 0 rfl rfl ?_
                          refine s_iast X dX6_keep_213 7 rfl (by (have h9 := hdk.2.2 (by omega); omega)) [oMo o th n a e dn at9 dp po kz w9 r9 pl b8 s9 xt r8 nir xi xd np nw nr nb ns yt nrw nir yi yd inf9, aB G xt 400 tx1, aB G yt 400 t, aI G xi 60 xi1, aF G xd 60 xd1, aI G yi 60 qi, aF G yd 60 qd, aI G po 20 (uI opf dp.toNat np)] rfl ?_
                          refine s_aload_n X dX6_keep_214 rfl 1 rfl ?_
                          refine s_dup X dX6_keep_215 rfl ?_
                          refine s_get X dX6_keep_216 fl_X6_212 0 rfl rfl ?_
                          refine s_iconst X dX6_keep_219 ?_
                          refine s_iadd X dX6_keep_220 ?_
                          refine s_put X dX6_keep_221 fl_X6_212 tyX6_ok nmX6 0 rfl rfl (rfl) (rfl) (Nat.le_of_ble_eq_true rfl) [oMo o th n a e dn at9 (dp + 1) po kz w9 r9 pl b8 s9 xt r8 nir xi xd np nw nr nb ns yt nrw nir yi yd inf9, aB G xt 400 tx1, aB G yt 400 t, aI G xi 60 xi1, aF G xd 60 xd1, aI G yi 60 qi, aF G yd 60 qd, aI G po 20 (uI opf dp.toNat np)] rfl ?_
                          exact j224 (dp + 1) (uI opf dp.toNat np) (by first | rw [if_pos (by omega)] | rw [if_neg (by omega)]) (by first | rw [if_pos (by omega)] | rw [if_neg (by omega)])
                      refine s_aload_n X dX6_keep_168 rfl 1 rfl ?_
                      refine s_iload_n X dX6_keep_169 rfl 2 rfl ?_
                      refine s_iconst X dX6_keep_170 ?_
                      refine s_icmp_ne X 188 dX6_keep_171 (by decide) (by omega) (fun c171 => ?_) (fun c171 => ?_)
                      · refine s_aload_n X dX6_keep_188 rfl 1 rfl ?_
                        refine s_get X dX6_keep_189 fl_X6_17 0 rfl rfl ?_
                        exact j192 base (by first | rw [if_pos (by omega)] | rw [if_neg (by omega)])
                      · refine s_aload_n X dX6_keep_174 rfl 1 rfl ?_
                        refine s_get X dX6_keep_175 fl_X6_81 0 rfl rfl ?_
                        refine s_if_le X 188 dX6_keep_178 (by decide) (by (have h9 := hnb36 (by omega); omega)) (fun c178 => ?_) (fun c178 => ?_)
                        · refine s_aload_n X dX6_keep_188 rfl 1 rfl ?_
                          refine s_get X dX6_keep_189 fl_X6_17 0 rfl rfl ?_
                          exact j192 base (by first | rw [if_pos (by omega)] | rw [if_neg (by omega)])
                        · refine s_aload_n X dX6_keep_181 rfl 1 rfl ?_
                          refine s_get X dX6_keep_182 fl_X6_81 0 rfl rfl ?_
                          refine s_goto X 192 dX6_keep_185 (by decide) ?_
                          exact j192 nb (by first | rw [if_pos (by omega)] | rw [if_neg (by omega)])
                    · refine s_aload_n X dX6_keep_138 rfl 1 rfl ?_
                      refine s_get X dX6_keep_139 fl_X6_24 0 rfl rfl ?_
                      refine s_iload_n X dX6_keep_142 rfl 0 rfl ?_
                      refine s_aload_n X dX6_keep_143 rfl 1 rfl ?_
                      refine s_get X dX6_keep_144 fl_X6_34 0 rfl rfl ?_
                      refine s_iload_n X dX6_keep_147 rfl 0 rfl ?_
                      refine s_iald X dX6_keep_148 5 rfl (by omega) ?_
                      refine s_iast X dX6_keep_149 3 rfl (by omega) [oMo o th n a e dn at9 dp po kz w9 r9 pl base s9 xt r8 nir xi xd np nw nr nb ns yt nrw nir yi yd inf9, aB G xt 400 tx1, aB G yt 400 t, aI G xi 60 (uI xi1 k.toNat (qi k.toNat)), aF G xd 60 xd1, aI G yi 60 qi, aF G yd 60 qd, aI G po 20 opf] rfl ?_
                      refine s_aload_n X dX6_keep_150 rfl 1 rfl ?_
                      refine s_get X dX6_keep_151 fl_X6_27 0 rfl rfl ?_
                      refine s_iload_n X dX6_keep_154 rfl 0 rfl ?_
                      refine s_aload_n X dX6_keep_155 rfl 1 rfl ?_
                      refine s_get X dX6_keep_156 fl_X6_37 0 rfl rfl ?_
                      refine s_iload_n X dX6_keep_159 rfl 0 rfl ?_
                      refine s_dald X dX6_keep_160 6 rfl (by omega) ?_
                      refine s_dast X dX6_keep_161 4 rfl (by omega) [oMo o th n a e dn at9 dp po kz w9 r9 pl base s9 xt r8 nir xi xd np nw nr nb ns yt nrw nir yi yd inf9, aB G xt 400 tx1, aB G yt 400 t, aI G xi 60 (uI xi1 k.toNat (qi k.toNat)), aF G xd 60 (uD xd1 k.toNat (qd k.toNat)), aI G yi 60 qi, aF G yd 60 qd, aI G po 20 opf] rfl ?_
                      refine s_iinc (z := k + 1) X dX6_keep_162 0 rfl (by first | rfl | omega) [(2, .int (iI (k + 1))), (0, .ref o), (1, .int (iI kz))] (by decide) rfl ?_
                      refine s_goto X 130 dX6_keep_165 (by decide) ?_
                      exact ih9 (k + 1) (uI xi1 k.toNat (qi k.toNat)) (uD xd1 k.toNat (qd k.toNat)) (by omega) (kp_r g1.1 g4) (by omega)
                exact lp2 _ 0 xi9 xd9 (by omega) (fun j a b => by omega) (Nat.lt_succ_self _)
              refine s_aload_n X dX6_keep_102 rfl 1 rfl ?_
              refine s_iload_n X dX6_keep_103 rfl 2 rfl ?_
              refine s_bipush 16 X dX6_keep_104 (by decide) ?_
              refine s_icmp_ne X 116 dX6_keep_106 (by decide) (by omega) (fun c106 => ?_) (fun c106 => ?_)
              · refine s_iconst X dX6_keep_116 ?_
                exact j117 0 (by first | rw [if_pos (by omega)] | rw [if_neg (by omega)])
              · refine s_aload_n X dX6_keep_109 rfl 1 rfl ?_
                refine s_get X dX6_keep_110 fl_X6_190 0 rfl rfl ?_
                refine s_goto X 117 dX6_keep_113 (by decide) ?_
                exact j117 nrw (by first | rw [if_pos (by omega)] | rw [if_neg (by omega)])
            · refine s_aload_n X dX6_keep_84 rfl 1 rfl ?_
              refine s_get X dX6_keep_85 fl_X6_21 0 rfl rfl ?_
              refine s_iload_n X dX6_keep_88 rfl 0 rfl ?_
              refine s_aload_n X dX6_keep_89 rfl 1 rfl ?_
              refine s_get X dX6_keep_90 fl_X6_31 0 rfl rfl ?_
              refine s_iload_n X dX6_keep_93 rfl 0 rfl ?_
              refine s_bald X dX6_keep_94 2 rfl (by omega) ?_
              refine s_bast X dX6_keep_95 1 rfl (by omega) [oMo o th n a e dn at9 dp po kz w9 r9 pl base s9 xt row ror xi xd np nw nr nb ns yt nrw nir yi yd inf9, aB G xt 400 (uB tx1 q.toNat (t q.toNat)), aB G yt 400 t, aI G xi 60 xi9, aF G xd 60 xd9, aI G yi 60 qi, aF G yd 60 qd, aI G po 20 opf] rfl ?_
              refine s_iinc (z := q + 1) X dX6_keep_96 0 rfl (by first | rfl | omega) [(2, .int (iI (q + 1))), (0, .ref o), (1, .int (iI kz))] (by decide) rfl ?_
              refine s_goto X 76 dX6_keep_99 (by decide) ?_
              exact ih9 (q + 1) (uB tx1 q.toNat (t q.toNat)) (by omega) (kp_t h1.1 h4) (uB_lt h5 htb) (by omega)
        exact lp1 _ 0 tx (by omega) (fun j a => by omega) (htxb) (Nat.lt_succ_self _)
      refine s_aload_n X dX6_keep_51 rfl 0 rfl ?_
      refine s_iload_n X dX6_keep_52 rfl 1 rfl ?_
      refine s_iconst X dX6_keep_53 ?_
      refine s_icmp_lt X 70 dX6_keep_54 (by decide) (by omega) (fun c54 => ?_) (fun c54 => ?_)
      · refine s_iconst X dX6_keep_70 ?_
        exact j71 0 (by first | rw [if_pos (by omega)] | rw [if_neg (by omega)])
      · refine s_iload_n X dX6_keep_57 rfl 1 rfl ?_
        refine s_bipush 6 X dX6_keep_58 (by decide) ?_
        refine s_icmp_gt X 70 dX6_keep_60 (by decide) (by omega) (fun c60 => ?_) (fun c60 => ?_)
        · refine s_iconst X dX6_keep_70 ?_
          exact j71 0 (by first | rw [if_pos (by omega)] | rw [if_neg (by omega)])
        · refine s_aload_n X dX6_keep_63 rfl 0 rfl ?_
          refine s_get X dX6_keep_64 fl_X6_99 0 rfl rfl ?_
          refine s_goto X 71 dX6_keep_67 (by decide) ?_
          exact j71 ns (by first | rw [if_pos (by omega)] | rw [if_neg (by omega)])
    refine s_aload_n X dX6_keep_34 rfl 0 rfl ?_
    refine s_iload_n X dX6_keep_35 rfl 1 rfl ?_
    refine s_iconst X dX6_keep_36 ?_
    refine s_icmp_ne X 47 dX6_keep_37 (by decide) (by omega) (fun c37 => ?_) (fun c37 => ?_)
    · refine s_dconst0 X dX6_keep_47 ?_
      exact j48 FP.dconst0 (by first | rw [if_pos (by omega)] | rw [if_neg (by omega)])
    · refine s_aload_n X dX6_keep_40 rfl 0 rfl ?_
      refine s_get X dX6_keep_41 fl_X6_93 0 rfl rfl ?_
      refine s_goto X 48 dX6_keep_44 (by decide) ?_
      exact j48 nr (by first | rw [if_pos (by omega)] | rw [if_neg (by omega)])
  refine s_aload_n X dX6_keep_5 rfl 0 rfl ?_
  refine s_iload_n X dX6_keep_6 rfl 1 rfl ?_
  refine s_iconst X dX6_keep_7 ?_
  refine s_icmp_eq X 23 dX6_keep_8 (by decide) (by omega) (fun c8 => ?_) (fun c8 => ?_)
  · refine s_lconst0 X dX6_keep_23 ?_
    refine s_goto X 31 dX6_keep_24 (by decide) ?_
    exact j31 0 (by first | rw [if_pos (by omega)] | rw [if_neg (by omega)])
  · refine s_iload_n X dX6_keep_11 rfl 1 rfl ?_
    refine s_bipush 7 X dX6_keep_12 (by decide) ?_
    refine s_icmp_lt X 27 dX6_keep_14 (by decide) (by omega) (fun c14 => ?_) (fun c14 => ?_)
    · refine s_aload_n X dX6_keep_27 rfl 0 rfl ?_
      refine s_get X dX6_keep_28 fl_X6_77 0 rfl rfl ?_
      exact j31 nw (by first | rw [if_pos (by omega)] | rw [if_neg (by omega)])
    · refine s_iload_n X dX6_keep_17 rfl 1 rfl ?_
      refine s_bipush 12 X dX6_keep_18 (by decide) ?_
      refine s_icmp_gt X 27 dX6_keep_20 (by decide) (by omega) (fun c20 => ?_) (fun c20 => ?_)
      · refine s_aload_n X dX6_keep_27 rfl 0 rfl ?_
        refine s_get X dX6_keep_28 fl_X6_77 0 rfl rfl ?_
        exact j31 nw (by first | rw [if_pos (by omega)] | rw [if_neg (by omega)])
      · refine s_lconst0 X dX6_keep_23 ?_
        refine s_goto X 31 dX6_keep_24 (by decide) ?_
        exact j31 0 (by first | rw [if_pos (by omega)] | rw [if_neg (by omega)])
