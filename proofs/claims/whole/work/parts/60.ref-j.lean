set_option maxRecDepth 100000 in
set_option maxHeartbeats 4000000 in
theorem c_X6_binaryToken (l : Launch) (G : GX) (o : Nat) (a : Nat) (po : Nat) (xt : Nat) (xi : Nat) (xd : Nat) (yt : Nat) (yi : Nat) (yd : Nat) (th : Int) (n : Int) (e : Int) (dn : Int) (at9 : Int) (dp : Int) (kd : Int) (wh : Int) (pl : Int) (base : Int) (sg : Int) (row : Int) (ror : Int) (np : Int) (nw : Int) (nb : Int) (ns : Int) (nrw : Int) (nir : Int) (inf9 : Int) (re : UInt64) (nr : UInt64) (B : Nat → Nat) (t : Nat → Nat) (qi : Nat → Int) (qd : Nat → UInt64) (c : Int) (hn : 0 ≤ n ∧ n ≤ 3000) (hBb : ∀ j, B j < 256) (he : e = 0 ∨ e = 1) (hap : 0 ≤ at9 ∧ at9 < n) (hnp : np = at9) (hns0 : ns = 0) (htb : ∀ j, t j < 256) (hif0 : inf9 = 0) (hc : 128 ≤ c ∧ c ≤ 159) : CtI l G yX6_binaryToken cX6_binaryToken 2 (some .int) ({ frames := 4, cells := 0, slots := 0, locals := 106 } : Room) [.ref o, .int (iI c)] [oMo o th n a e dn at9 dp po kd wh re pl base sg xt row ror xi xd np nw nr nb ns yt nrw nir yi yd inf9, aB G a 3000 B, aB G yt 400 t, aI G yi 60 qi, aF G yd 60 qd] (fun (z9 : Int) (w9 : va_W) => ∃ (at2 : Int), ∃ (np2 : Int), ∃ (nw2 : Int), ∃ (ns2 : Int), ∃ (nrw2 : Int), ∃ (nir2 : Int), ∃ (inf2 : Int), ∃ (nr2 : UInt64), ∃ (t2 : Nat → Nat), ∃ (qi2 : Nat → Int), ∃ (qd2 : Nat → UInt64), z9 = (biA B n e at9 c) ∧ w9 = [oMo o th n a e dn at2 dp po kd wh re pl base sg xt row ror xi xd np2 nw2 nr2 nb ns2 yt nrw2 nir2 yi yd inf2, aB G a 3000 B, aB G yt 400 t2, aI G yi 60 qi2, aF G yd 60 qd2] ∧ (z9 ≠ 0 → at2 = biF B n at9 c ∧ np2 = biP B n at9 c) ∧ (0 < z9 → BiG B n at9 c z9 nw2 ns2 nrw2 nir2 nr2 t2 qi2 qd2) ∧ (∀ j, t2 j < 256) ∧ (nir2 = nir ∨ (0 ≤ nir2 ∧ nir2 ≤ 1))) := by
  intro sz
  refine met_of (fun wc sz => va_Qi (qI _) (posW G wc sz) (va_A wc sz)) (by decide) [(0, .ref o), (1, .int (iI c))] rfl (Nat.le_of_ble_eq_true rfl) (fun K hK9 hnm X Y => ?_)
  subst hK9
  replace Y : RI K G (some .int) 0 0 _ := Y
  refine s_iload_n X dX6_binaryToken_0 rfl 1 rfl ?_
  refine s_sipush 132 X dX6_binaryToken_1 (by decide) ?_
  refine s_icmp_eq X 14 dX6_binaryToken_4 (by decide) (by omega) (fun c4 => ?_) (fun c4 => ?_)
  · refine s_aload_n X dX6_binaryToken_14 rfl 0 rfl ?_
    refine s_iconst X dX6_binaryToken_15 ?_
    refine s_iload_n X dX6_binaryToken_16 rfl 1 rfl ?_
    refine s_sipush 133 X dX6_binaryToken_17 (by decide) ?_
    refine s_icmp_ne X 27 dX6_binaryToken_20 (by decide) (by omega) (fun c20 => ?_) (fun c20 => ?_)
    · refine s_iconst X dX6_binaryToken_27 ?_
      refine s_callIV X lk_X6_193 [0, 1] [2, 3, 4] (wr := [aB G yt 400 t, aI G yi 60 qi, aF G yd 60 qd]) rfl rfl (by decide) (by decide) (by decide) (c_X6_number (kl K) G o a po xt xi xd yt yi yd th n e dn at9 dp kd wh pl base sg row ror np nw nb ns nrw nir inf9 re nr B 4 0 (by assumption) (by assumption) (by omega) (by omega) (by omega) (by omega) (by omega)) rfl rfl dX6_binaryToken_28 rfl rfl (Nat.le_of_ble_eq_true rfl) (by decide) (fun z1 w1 h1 => ?_)
      obtain ⟨at21, nw21, rfl, rfl, f1_0, f1_1⟩ := h1
      show SW K G 2 0 0 31 [(0, .ref o), (1, .int (iI c))] [.int (iI (nuA n e (at9 + 1 + 4) (-99)))] [aB G yt 400 t, aI G yi 60 qi, aF G yd 60 qd, oMo o th n a e dn at21 dp po kd wh re pl base sg xt row ror xi xd np nw21 nr nb ns yt nrw nir yi yd inf9, aB G a 3000 B]
      have g0 := f1_0
      have g1 := f1_1
      have hv9 := nuA_v n e (at9 + 1 + 4)
      refine s_callIS X lk_X6_197 [] [0, 1, 2, 3, 4] (wr := [aB G yt 400 t, aI G yi 60 qi, aF G yd 60 qd, oMo o th n a e dn at21 dp po kd wh re pl base sg xt row ror xi xd np nw21 nr nb ns yt nrw nir yi yd inf9, aB G a 3000 B]) rfl rfl (by decide) (by decide) (by decide) (c_X6_asNumber (kl K) G (nuA n e (at9 + 1 + 4) (-99)) (by omega)) dX6_binaryToken_31 rfl rfl (Nat.le_of_ble_eq_true rfl) (by decide) (fun z2 w2 h2 => ?_)
      obtain ⟨rfl, rfl⟩ := h2
      show SW K G 2 0 0 34 [(0, .ref o), (1, .int (iI c))] [.int (iI (if (nuA n e (at9 + 1 + 4) (-99)) = -99 then 1 else (nuA n e (at9 + 1 + 4) (-99))))] [aB G yt 400 t, aI G yi 60 qi, aF G yd 60 qd, oMo o th n a e dn at21 dp po kd wh re pl base sg xt row ror xi xd np nw21 nr nb ns yt nrw nir yi yd inf9, aB G a 3000 B]
      refine s_perm (ws' := [oMo o th n a e dn at21 dp po kd wh re pl base sg xt row ror xi xd np nw21 nr nb ns yt nrw nir yi yd inf9, aB G a 3000 B, aB G yt 400 t, aI G yi 60 qi, aF G yd 60 qd]) [3, 4, 0, 1, 2] (by decide) rfl rfl ?_
      refine s_iret X Y dX6_binaryToken_34 (rfl) ?_
      refine ⟨at21, np, nw21, ns, nrw, nir, inf9, nr, t, qi, qd, ?_, rfl, ?_, ?_, ?_, ?_⟩
      · (first | (exfalso; omega) | (have e9 : c = 132 := (by omega); subst e9; have hb := bi_132 B n e at9; exact (nuA_99 _ _ _).trans hb.1.symm))
      · (first | (exfalso; omega) | (have e9 : c = 132 := (by omega); subst e9; have hb := bi_132 B n e at9; intro h; rw [nuA_99] at h; rw [hb.2.1, hb.2.2.1]; exact ⟨g0 (nuA_90 h), hnp⟩))
      · (first | (exfalso; omega) | (have e9 : c = 132 := (by omega); subst e9; have hb := bi_132 B n e at9; intro h; rw [nuA_99] at h ⊢; exact BiG_1 (Or.inl (nuA_kd h).1) ((g1 (nuA_91 h)).trans hb.2.2.2.1.symm) hb.2.2.2.2.1 hb.2.2.2.2.2.1 hb.2.2.2.2.2.2))
      · (first | (exfalso; omega) | (exact htb))
      · (first | (exfalso; omega) | (exact Or.inl rfl))
    · refine s_iconst X dX6_binaryToken_23 ?_
      refine s_goto X 28 dX6_binaryToken_24 (by decide) ?_
      refine s_callIV X lk_X6_193 [0, 1] [2, 3, 4] (wr := [aB G yt 400 t, aI G yi 60 qi, aF G yd 60 qd]) rfl rfl (by decide) (by decide) (by decide) (c_X6_number (kl K) G o a po xt xi xd yt yi yd th n e dn at9 dp kd wh pl base sg row ror np nw nb ns nrw nir inf9 re nr B 4 1 (by assumption) (by assumption) (by omega) (by omega) (by omega) (by omega) (by omega)) rfl rfl dX6_binaryToken_28 rfl rfl (Nat.le_of_ble_eq_true rfl) (by decide) (fun z3 w3 h3 => ?_)
      obtain ⟨at23, nw23, rfl, rfl, f3_0, f3_1⟩ := h3
      show SW K G 2 0 0 31 [(0, .ref o), (1, .int (iI c))] [.int (iI (nuA n e (at9 + 1 + 4) (-99)))] [aB G yt 400 t, aI G yi 60 qi, aF G yd 60 qd, oMo o th n a e dn at23 dp po kd wh re pl base sg xt row ror xi xd np nw23 nr nb ns yt nrw nir yi yd inf9, aB G a 3000 B]
      have g0 := f3_0
      have g1 := f3_1
      have hv9 := nuA_v n e (at9 + 1 + 4)
      refine s_callIS X lk_X6_197 [] [0, 1, 2, 3, 4] (wr := [aB G yt 400 t, aI G yi 60 qi, aF G yd 60 qd, oMo o th n a e dn at23 dp po kd wh re pl base sg xt row ror xi xd np nw23 nr nb ns yt nrw nir yi yd inf9, aB G a 3000 B]) rfl rfl (by decide) (by decide) (by decide) (c_X6_asNumber (kl K) G (nuA n e (at9 + 1 + 4) (-99)) (by omega)) dX6_binaryToken_31 rfl rfl (Nat.le_of_ble_eq_true rfl) (by decide) (fun z4 w4 h4 => ?_)
      obtain ⟨rfl, rfl⟩ := h4
      show SW K G 2 0 0 34 [(0, .ref o), (1, .int (iI c))] [.int (iI (if (nuA n e (at9 + 1 + 4) (-99)) = -99 then 1 else (nuA n e (at9 + 1 + 4) (-99))))] [aB G yt 400 t, aI G yi 60 qi, aF G yd 60 qd, oMo o th n a e dn at23 dp po kd wh re pl base sg xt row ror xi xd np nw23 nr nb ns yt nrw nir yi yd inf9, aB G a 3000 B]
      refine s_perm (ws' := [oMo o th n a e dn at23 dp po kd wh re pl base sg xt row ror xi xd np nw23 nr nb ns yt nrw nir yi yd inf9, aB G a 3000 B, aB G yt 400 t, aI G yi 60 qi, aF G yd 60 qd]) [3, 4, 0, 1, 2] (by decide) rfl rfl ?_
      refine s_iret X Y dX6_binaryToken_34 (rfl) ?_
      refine ⟨at23, np, nw23, ns, nrw, nir, inf9, nr, t, qi, qd, ?_, rfl, ?_, ?_, ?_, ?_⟩
      · (first | (exfalso; omega) | (have e9 : c = 132 := (by omega); subst e9; have hb := bi_132 B n e at9; exact (nuA_99 _ _ _).trans hb.1.symm))
      · (first | (exfalso; omega) | (have e9 : c = 132 := (by omega); subst e9; have hb := bi_132 B n e at9; intro h; rw [nuA_99] at h; rw [hb.2.1, hb.2.2.1]; exact ⟨g0 (nuA_90 h), hnp⟩))
      · (first | (exfalso; omega) | (have e9 : c = 132 := (by omega); subst e9; have hb := bi_132 B n e at9; intro h; rw [nuA_99] at h ⊢; exact BiG_1 (Or.inl (nuA_kd h).1) ((g1 (nuA_91 h)).trans hb.2.2.2.1.symm) hb.2.2.2.2.1 hb.2.2.2.2.2.1 hb.2.2.2.2.2.2))
      · (first | (exfalso; omega) | (exact htb))
      · (first | (exfalso; omega) | (exact Or.inl rfl))
  · refine s_iload_n X dX6_binaryToken_7 rfl 1 rfl ?_
    refine s_sipush 133 X dX6_binaryToken_8 (by decide) ?_
    refine s_icmp_ne X 35 dX6_binaryToken_11 (by decide) (by omega) (fun c11 => ?_) (fun c11 => ?_)
    · refine s_iload_n X dX6_binaryToken_35 rfl 1 rfl ?_
      refine s_sipush 134 X dX6_binaryToken_36 (by decide) ?_
      refine s_icmp_eq X 49 dX6_binaryToken_39 (by decide) (by omega) (fun c39 => ?_) (fun c39 => ?_)
      · refine s_aload_n X dX6_binaryToken_49 rfl 0 rfl ?_
        refine s_iconst X dX6_binaryToken_50 ?_
        refine s_iload_n X dX6_binaryToken_51 rfl 1 rfl ?_
        refine s_sipush 135 X dX6_binaryToken_52 (by decide) ?_
        refine s_icmp_ne X 62 dX6_binaryToken_55 (by decide) (by omega) (fun c55 => ?_) (fun c55 => ?_)
        · refine s_iconst X dX6_binaryToken_62 ?_
          refine s_callIV X lk_X6_193 [0, 1] [2, 3, 4] (wr := [aB G yt 400 t, aI G yi 60 qi, aF G yd 60 qd]) rfl rfl (by decide) (by decide) (by decide) (c_X6_number (kl K) G o a po xt xi xd yt yi yd th n e dn at9 dp kd wh pl base sg row ror np nw nb ns nrw nir inf9 re nr B 2 0 (by assumption) (by assumption) (by omega) (by omega) (by omega) (by omega) (by omega)) rfl rfl dX6_binaryToken_63 rfl rfl (Nat.le_of_ble_eq_true rfl) (by decide) (fun z5 w5 h5 => ?_)
          obtain ⟨at25, nw25, rfl, rfl, f5_0, f5_1⟩ := h5
          show SW K G 2 0 0 66 [(0, .ref o), (1, .int (iI c))] [.int (iI (nuA n e (at9 + 1 + 2) (-99)))] [aB G yt 400 t, aI G yi 60 qi, aF G yd 60 qd, oMo o th n a e dn at25 dp po kd wh re pl base sg xt row ror xi xd np nw25 nr nb ns yt nrw nir yi yd inf9, aB G a 3000 B]
          have g0 := f5_0
          have g1 := f5_1
          have hv9 := nuA_v n e (at9 + 1 + 2)
          refine s_callIS X lk_X6_197 [] [0, 1, 2, 3, 4] (wr := [aB G yt 400 t, aI G yi 60 qi, aF G yd 60 qd, oMo o th n a e dn at25 dp po kd wh re pl base sg xt row ror xi xd np nw25 nr nb ns yt nrw nir yi yd inf9, aB G a 3000 B]) rfl rfl (by decide) (by decide) (by decide) (c_X6_asNumber (kl K) G (nuA n e (at9 + 1 + 2) (-99)) (by omega)) dX6_binaryToken_66 rfl rfl (Nat.le_of_ble_eq_true rfl) (by decide) (fun z6 w6 h6 => ?_)
          obtain ⟨rfl, rfl⟩ := h6
          show SW K G 2 0 0 69 [(0, .ref o), (1, .int (iI c))] [.int (iI (if (nuA n e (at9 + 1 + 2) (-99)) = -99 then 1 else (nuA n e (at9 + 1 + 2) (-99))))] [aB G yt 400 t, aI G yi 60 qi, aF G yd 60 qd, oMo o th n a e dn at25 dp po kd wh re pl base sg xt row ror xi xd np nw25 nr nb ns yt nrw nir yi yd inf9, aB G a 3000 B]
          refine s_perm (ws' := [oMo o th n a e dn at25 dp po kd wh re pl base sg xt row ror xi xd np nw25 nr nb ns yt nrw nir yi yd inf9, aB G a 3000 B, aB G yt 400 t, aI G yi 60 qi, aF G yd 60 qd]) [3, 4, 0, 1, 2] (by decide) rfl rfl ?_
          refine s_iret X Y dX6_binaryToken_69 (rfl) ?_
          refine ⟨at25, np, nw25, ns, nrw, nir, inf9, nr, t, qi, qd, ?_, rfl, ?_, ?_, ?_, ?_⟩
          · (first | (exfalso; omega) | (have e9 : c = 134 := (by omega); subst e9; have hb := bi_134 B n e at9; exact (nuA_99 _ _ _).trans hb.1.symm))
          · (first | (exfalso; omega) | (have e9 : c = 134 := (by omega); subst e9; have hb := bi_134 B n e at9; intro h; rw [nuA_99] at h; rw [hb.2.1, hb.2.2.1]; exact ⟨g0 (nuA_90 h), hnp⟩))
          · (first | (exfalso; omega) | (have e9 : c = 134 := (by omega); subst e9; have hb := bi_134 B n e at9; intro h; rw [nuA_99] at h ⊢; exact BiG_1 (Or.inl (nuA_kd h).1) ((g1 (nuA_91 h)).trans hb.2.2.2.1.symm) hb.2.2.2.2.1 hb.2.2.2.2.2.1 hb.2.2.2.2.2.2))
          · (first | (exfalso; omega) | (exact htb))
          · (first | (exfalso; omega) | (exact Or.inl rfl))
        · refine s_iconst X dX6_binaryToken_58 ?_
          refine s_goto X 63 dX6_binaryToken_59 (by decide) ?_
          refine s_callIV X lk_X6_193 [0, 1] [2, 3, 4] (wr := [aB G yt 400 t, aI G yi 60 qi, aF G yd 60 qd]) rfl rfl (by decide) (by decide) (by decide) (c_X6_number (kl K) G o a po xt xi xd yt yi yd th n e dn at9 dp kd wh pl base sg row ror np nw nb ns nrw nir inf9 re nr B 2 1 (by assumption) (by assumption) (by omega) (by omega) (by omega) (by omega) (by omega)) rfl rfl dX6_binaryToken_63 rfl rfl (Nat.le_of_ble_eq_true rfl) (by decide) (fun z7 w7 h7 => ?_)
          obtain ⟨at27, nw27, rfl, rfl, f7_0, f7_1⟩ := h7
          show SW K G 2 0 0 66 [(0, .ref o), (1, .int (iI c))] [.int (iI (nuA n e (at9 + 1 + 2) (-99)))] [aB G yt 400 t, aI G yi 60 qi, aF G yd 60 qd, oMo o th n a e dn at27 dp po kd wh re pl base sg xt row ror xi xd np nw27 nr nb ns yt nrw nir yi yd inf9, aB G a 3000 B]
          have g0 := f7_0
          have g1 := f7_1
          have hv9 := nuA_v n e (at9 + 1 + 2)
          refine s_callIS X lk_X6_197 [] [0, 1, 2, 3, 4] (wr := [aB G yt 400 t, aI G yi 60 qi, aF G yd 60 qd, oMo o th n a e dn at27 dp po kd wh re pl base sg xt row ror xi xd np nw27 nr nb ns yt nrw nir yi yd inf9, aB G a 3000 B]) rfl rfl (by decide) (by decide) (by decide) (c_X6_asNumber (kl K) G (nuA n e (at9 + 1 + 2) (-99)) (by omega)) dX6_binaryToken_66 rfl rfl (Nat.le_of_ble_eq_true rfl) (by decide) (fun z8 w8 h8 => ?_)
          obtain ⟨rfl, rfl⟩ := h8
          show SW K G 2 0 0 69 [(0, .ref o), (1, .int (iI c))] [.int (iI (if (nuA n e (at9 + 1 + 2) (-99)) = -99 then 1 else (nuA n e (at9 + 1 + 2) (-99))))] [aB G yt 400 t, aI G yi 60 qi, aF G yd 60 qd, oMo o th n a e dn at27 dp po kd wh re pl base sg xt row ror xi xd np nw27 nr nb ns yt nrw nir yi yd inf9, aB G a 3000 B]
          refine s_perm (ws' := [oMo o th n a e dn at27 dp po kd wh re pl base sg xt row ror xi xd np nw27 nr nb ns yt nrw nir yi yd inf9, aB G a 3000 B, aB G yt 400 t, aI G yi 60 qi, aF G yd 60 qd]) [3, 4, 0, 1, 2] (by decide) rfl rfl ?_
          refine s_iret X Y dX6_binaryToken_69 (rfl) ?_
          refine ⟨at27, np, nw27, ns, nrw, nir, inf9, nr, t, qi, qd, ?_, rfl, ?_, ?_, ?_, ?_⟩
          · (first | (exfalso; omega) | (have e9 : c = 134 := (by omega); subst e9; have hb := bi_134 B n e at9; exact (nuA_99 _ _ _).trans hb.1.symm))
          · (first | (exfalso; omega) | (have e9 : c = 134 := (by omega); subst e9; have hb := bi_134 B n e at9; intro h; rw [nuA_99] at h; rw [hb.2.1, hb.2.2.1]; exact ⟨g0 (nuA_90 h), hnp⟩))
          · (first | (exfalso; omega) | (have e9 : c = 134 := (by omega); subst e9; have hb := bi_134 B n e at9; intro h; rw [nuA_99] at h ⊢; exact BiG_1 (Or.inl (nuA_kd h).1) ((g1 (nuA_91 h)).trans hb.2.2.2.1.symm) hb.2.2.2.2.1 hb.2.2.2.2.2.1 hb.2.2.2.2.2.2))
          · (first | (exfalso; omega) | (exact htb))
          · (first | (exfalso; omega) | (exact Or.inl rfl))
      · refine s_iload_n X dX6_binaryToken_42 rfl 1 rfl ?_
        refine s_sipush 135 X dX6_binaryToken_43 (by decide) ?_
        refine s_icmp_ne X 70 dX6_binaryToken_46 (by decide) (by omega) (fun c46 => ?_) (fun c46 => ?_)
        · refine s_iload_n X dX6_binaryToken_70 rfl 1 rfl ?_
          refine s_sipush 136 X dX6_binaryToken_71 (by decide) ?_
          refine s_icmp_ne X 87 dX6_binaryToken_74 (by decide) (by omega) (fun c74 => ?_) (fun c74 => ?_)
          · refine s_iload_n X dX6_binaryToken_87 rfl 1 rfl ?_
            refine s_sipush 137 X dX6_binaryToken_88 (by decide) ?_
            refine s_icmp_ne X 99 dX6_binaryToken_91 (by decide) (by omega) (fun c91 => ?_) (fun c91 => ?_)
            · refine s_iload_n X dX6_binaryToken_99 rfl 1 rfl ?_
              refine s_sipush 138 X dX6_binaryToken_100 (by decide) ?_
              refine s_icmp_eq X 113 dX6_binaryToken_103 (by decide) (by omega) (fun c103 => ?_) (fun c103 => ?_)
              · refine s_aload_n X dX6_binaryToken_113 rfl 0 rfl ?_
                refine s_iconst X dX6_binaryToken_114 ?_
                refine s_callIV X lk_X6_180 [0] [1, 2, 3, 4] (wr := [aB G a 3000 B, aB G yt 400 t, aI G yi 60 qi, aF G yd 60 qd]) rfl rfl (by decide) (by decide) (by decide) (c_X6_came (kl K) G o a po xt xi xd yt yi yd th n e dn at9 dp kd wh pl base sg row ror np nw nb ns nrw nir inf9 re nr 5 (by omega)) rfl rfl dX6_binaryToken_115 rfl rfl (Nat.le_of_ble_eq_true rfl) (by decide) (fun z9 w9 h9 => ?_)
                obtain ⟨rfl, rfl⟩ := h9
                show SW K G 2 0 0 118 [(0, .ref o), (1, .int (iI c))] [.int (iI (tf (np + 5 ≤ n)))] [aB G a 3000 B, aB G yt 400 t, aI G yi 60 qi, aF G yd 60 qd, oMo o th n a e dn at9 dp po kd wh re pl base sg xt row ror xi xd np nw nr nb ns yt nrw nir yi yd inf9]
                refine s_tf_ne X 126 dX6_binaryToken_118 (by decide) (fun c118 => ?_) (fun c118 => ?_)
                · refine s_aload_n X dX6_binaryToken_126 rfl 0 rfl ?_
                  refine s_aload_n X dX6_binaryToken_127 rfl 0 rfl ?_
                  refine s_aload_n X dX6_binaryToken_128 rfl 0 rfl ?_
                  refine s_get X dX6_binaryToken_129 fl_X6_102 4 rfl rfl ?_
                  refine s_iconst X dX6_binaryToken_132 ?_
                  refine s_iadd X dX6_binaryToken_133 ?_
                  refine s_iload_n X dX6_binaryToken_134 rfl 1 rfl ?_
                  refine s_sipush 139 X dX6_binaryToken_135 (by decide) ?_
                  refine s_icmp_ne X 145 dX6_binaryToken_138 (by decide) (by omega) (fun c138 => ?_) (fun c138 => ?_)
                  · refine s_iconst X dX6_binaryToken_145 ?_
                    refine s_callDV X lk_X6_186 [4, 0] [1, 2, 3] (wr := [aB G yt 400 t, aI G yi 60 qi, aF G yd 60 qd]) rfl rfl (by decide) (by decide) (by decide) (c_X6_four (kl K) G o a po xt xi xd yt yi yd th n e dn at9 dp kd wh pl base sg row ror np nw nb ns nrw nir inf9 re nr B (at9 + 1) 0 (by assumption) (by assumption) (by omega) (by omega) (by omega)) rfl rfl dX6_binaryToken_146 rfl rfl (Nat.le_of_ble_eq_true rfl) (by decide) (fun z10 w10 h10 => ?_)
                    obtain ⟨inf210, rfl, rfl, f10_0⟩ := h10
                    show SW K G 2 0 0 149 [(0, .ref o), (1, .int (iI c))] [.double (flV (nmb B n (at9 + 1) 4 0)), .ref o] [aB G yt 400 t, aI G yi 60 qi, aF G yd 60 qd, oMo o th n a e dn at9 dp po kd wh re pl base sg xt row ror xi xd np nw nr nb ns yt nrw nir yi yd inf210, aB G a 3000 B]
                    have gI := f10_0
                    have gI2 := fi_01 gI
                    refine s_put X dX6_binaryToken_149 fl_X6_93 tyX6_ok nmX6 3 rfl rfl (rfl) (rfl) (Nat.le_of_ble_eq_true rfl) [aB G yt 400 t, aI G yi 60 qi, aF G yd 60 qd, oMo o th n a e dn at9 dp po kd wh re pl base sg xt row ror xi xd np nw (flV (nmb B n (at9 + 1) 4 0)) nb ns yt nrw nir yi yd inf210, aB G a 3000 B] rfl ?_
                    refine s_aload_n X dX6_binaryToken_152 rfl 0 rfl ?_
                    refine s_aload_n X dX6_binaryToken_153 rfl 0 rfl ?_
                    refine s_get X dX6_binaryToken_154 fl_X6_102 3 rfl rfl ?_
                    refine s_iconst X dX6_binaryToken_157 ?_
                    refine s_iadd X dX6_binaryToken_158 ?_
                    refine s_put X dX6_binaryToken_159 fl_X6_102 tyX6_ok nmX6 3 rfl rfl (rfl) (rfl) (Nat.le_of_ble_eq_true rfl) [aB G yt 400 t, aI G yi 60 qi, aF G yd 60 qd, oMo o th n a e dn (at9 + 5) dp po kd wh re pl base sg xt row ror xi xd np nw (flV (nmb B n (at9 + 1) 4 0)) nb ns yt nrw nir yi yd inf210, aB G a 3000 B] rfl ?_
                    refine s_aload_n X dX6_binaryToken_162 rfl 0 rfl ?_
                    refine s_get X dX6_binaryToken_163 fl_X6_171 3 rfl rfl ?_
                    refine s_if_eq X 174 dX6_binaryToken_166 (by decide) (by omega) (fun c166 => ?_) (fun c166 => ?_)
                    · refine s_iconst X dX6_binaryToken_174 ?_
                      refine s_perm (ws' := [oMo o th n a e dn (at9 + 5) dp po kd wh re pl base sg xt row ror xi xd np nw (flV (nmb B n (at9 + 1) 4 0)) nb ns yt nrw nir yi yd inf210, aB G a 3000 B, aB G yt 400 t, aI G yi 60 qi, aF G yd 60 qd]) [3, 4, 0, 1, 2] (by decide) rfl rfl ?_
                      refine s_iret X Y dX6_binaryToken_175 (rfl) ?_
                      refine ⟨(at9 + 5), np, nw, ns, nrw, nir, inf210, (flV (nmb B n (at9 + 1) 4 0)), t, qi, qd, ?_, rfl, ?_, ?_, ?_, ?_⟩
                      · (first | (exfalso; omega) | (have e9 : c = 138 := (by omega); subst e9; have hb := bi_138 B n e at9; have h255 : ¬ eb (nmb B n (at9 + 1) 4 0) = 255 := fi_0 gI c166; rw [hb.1, if_neg h255]; exact nuA_y (by omega)))
                      · (first | (exfalso; omega) | (have e9 : c = 138 := (by omega); subst e9; have hb := bi_138 B n e at9; intro _; rw [hb.2.1, hb.2.2.1]; exact ⟨(show at9 + 5 = at9 + 1 + 4 by omega).trans (lk_y (by omega)), hnp⟩))
                      · (first | (exfalso; omega) | (have e9 : c = 138 := (by omega); subst e9; have hb := bi_138 B n e at9; intro _; exact BiG_2 rfl hb.2.2.2.1 hb.2.2.2.2.1.symm hb.2.2.2.2.2.1 hb.2.2.2.2.2.2))
                      · (first | (exfalso; omega) | (exact htb))
                      · (first | (exfalso; omega) | (exact Or.inl rfl))
                    · refine s_bipush (-6) X dX6_binaryToken_169 (by decide) ?_
                      refine s_goto X 175 dX6_binaryToken_171 (by decide) ?_
                      refine s_perm (ws' := [oMo o th n a e dn (at9 + 5) dp po kd wh re pl base sg xt row ror xi xd np nw (flV (nmb B n (at9 + 1) 4 0)) nb ns yt nrw nir yi yd inf210, aB G a 3000 B, aB G yt 400 t, aI G yi 60 qi, aF G yd 60 qd]) [3, 4, 0, 1, 2] (by decide) rfl rfl ?_
                      refine s_iret X Y dX6_binaryToken_175 (rfl) ?_
                      refine ⟨(at9 + 5), np, nw, ns, nrw, nir, inf210, (flV (nmb B n (at9 + 1) 4 0)), t, qi, qd, ?_, rfl, ?_, ?_, ?_, ?_⟩
                      · (first | (exfalso; omega) | (have e9 : c = 138 := (by omega); subst e9; have hb := bi_138 B n e at9; have h255 : eb (nmb B n (at9 + 1) 4 0) = 255 := fi_1 gI hif0 c166; rw [hb.1, if_pos h255]; exact nuA_y (by omega)))
                      · (first | (exfalso; omega) | (have e9 : c = 138 := (by omega); subst e9; have hb := bi_138 B n e at9; intro _; rw [hb.2.1, hb.2.2.1]; exact ⟨(show at9 + 5 = at9 + 1 + 4 by omega).trans (lk_y (by omega)), hnp⟩))
                      · (first | (exfalso; omega) | (intro h; exact absurd h (by decide)))
                      · (first | (exfalso; omega) | (exact htb))
                      · (first | (exfalso; omega) | (exact Or.inl rfl))
                  · refine s_iconst X dX6_binaryToken_141 ?_
                    refine s_goto X 146 dX6_binaryToken_142 (by decide) ?_
                    refine s_callDV X lk_X6_186 [4, 0] [1, 2, 3] (wr := [aB G yt 400 t, aI G yi 60 qi, aF G yd 60 qd]) rfl rfl (by decide) (by decide) (by decide) (c_X6_four (kl K) G o a po xt xi xd yt yi yd th n e dn at9 dp kd wh pl base sg row ror np nw nb ns nrw nir inf9 re nr B (at9 + 1) 1 (by assumption) (by assumption) (by omega) (by omega) (by omega)) rfl rfl dX6_binaryToken_146 rfl rfl (Nat.le_of_ble_eq_true rfl) (by decide) (fun z11 w11 h11 => ?_)
                    obtain ⟨inf211, rfl, rfl, f11_0⟩ := h11
                    show SW K G 2 0 0 149 [(0, .ref o), (1, .int (iI c))] [.double (flV (nmb B n (at9 + 1) 4 1)), .ref o] [aB G yt 400 t, aI G yi 60 qi, aF G yd 60 qd, oMo o th n a e dn at9 dp po kd wh re pl base sg xt row ror xi xd np nw nr nb ns yt nrw nir yi yd inf211, aB G a 3000 B]
                    have gI := f11_0
                    have gI2 := fi_01 gI
                    refine s_put X dX6_binaryToken_149 fl_X6_93 tyX6_ok nmX6 3 rfl rfl (rfl) (rfl) (Nat.le_of_ble_eq_true rfl) [aB G yt 400 t, aI G yi 60 qi, aF G yd 60 qd, oMo o th n a e dn at9 dp po kd wh re pl base sg xt row ror xi xd np nw (flV (nmb B n (at9 + 1) 4 1)) nb ns yt nrw nir yi yd inf211, aB G a 3000 B] rfl ?_
                    refine s_aload_n X dX6_binaryToken_152 rfl 0 rfl ?_
                    refine s_aload_n X dX6_binaryToken_153 rfl 0 rfl ?_
                    refine s_get X dX6_binaryToken_154 fl_X6_102 3 rfl rfl ?_
                    refine s_iconst X dX6_binaryToken_157 ?_
                    refine s_iadd X dX6_binaryToken_158 ?_
                    refine s_put X dX6_binaryToken_159 fl_X6_102 tyX6_ok nmX6 3 rfl rfl (rfl) (rfl) (Nat.le_of_ble_eq_true rfl) [aB G yt 400 t, aI G yi 60 qi, aF G yd 60 qd, oMo o th n a e dn (at9 + 5) dp po kd wh re pl base sg xt row ror xi xd np nw (flV (nmb B n (at9 + 1) 4 1)) nb ns yt nrw nir yi yd inf211, aB G a 3000 B] rfl ?_
                    refine s_aload_n X dX6_binaryToken_162 rfl 0 rfl ?_
                    refine s_get X dX6_binaryToken_163 fl_X6_171 3 rfl rfl ?_
                    refine s_if_eq X 174 dX6_binaryToken_166 (by decide) (by omega) (fun c166 => ?_) (fun c166 => ?_)
                    · refine s_iconst X dX6_binaryToken_174 ?_
                      refine s_perm (ws' := [oMo o th n a e dn (at9 + 5) dp po kd wh re pl base sg xt row ror xi xd np nw (flV (nmb B n (at9 + 1) 4 1)) nb ns yt nrw nir yi yd inf211, aB G a 3000 B, aB G yt 400 t, aI G yi 60 qi, aF G yd 60 qd]) [3, 4, 0, 1, 2] (by decide) rfl rfl ?_
                      refine s_iret X Y dX6_binaryToken_175 (rfl) ?_
                      refine ⟨(at9 + 5), np, nw, ns, nrw, nir, inf211, (flV (nmb B n (at9 + 1) 4 1)), t, qi, qd, ?_, rfl, ?_, ?_, ?_, ?_⟩
                      · (first | (exfalso; omega) | (have e9 : c = 138 := (by omega); subst e9; have hb := bi_138 B n e at9; have h255 : ¬ eb (nmb B n (at9 + 1) 4 0) = 255 := fi_0 gI c166; rw [hb.1, if_neg h255]; exact nuA_y (by omega)))
                      · (first | (exfalso; omega) | (have e9 : c = 138 := (by omega); subst e9; have hb := bi_138 B n e at9; intro _; rw [hb.2.1, hb.2.2.1]; exact ⟨(show at9 + 5 = at9 + 1 + 4 by omega).trans (lk_y (by omega)), hnp⟩))
                      · (first | (exfalso; omega) | (have e9 : c = 138 := (by omega); subst e9; have hb := bi_138 B n e at9; intro _; exact BiG_2 rfl hb.2.2.2.1 hb.2.2.2.2.1.symm hb.2.2.2.2.2.1 hb.2.2.2.2.2.2))
                      · (first | (exfalso; omega) | (exact htb))
                      · (first | (exfalso; omega) | (exact Or.inl rfl))
                    · refine s_bipush (-6) X dX6_binaryToken_169 (by decide) ?_
                      refine s_goto X 175 dX6_binaryToken_171 (by decide) ?_
                      refine s_perm (ws' := [oMo o th n a e dn (at9 + 5) dp po kd wh re pl base sg xt row ror xi xd np nw (flV (nmb B n (at9 + 1) 4 1)) nb ns yt nrw nir yi yd inf211, aB G a 3000 B, aB G yt 400 t, aI G yi 60 qi, aF G yd 60 qd]) [3, 4, 0, 1, 2] (by decide) rfl rfl ?_
                      refine s_iret X Y dX6_binaryToken_175 (rfl) ?_
                      refine ⟨(at9 + 5), np, nw, ns, nrw, nir, inf211, (flV (nmb B n (at9 + 1) 4 1)), t, qi, qd, ?_, rfl, ?_, ?_, ?_, ?_⟩
                      · (first | (exfalso; omega) | (have e9 : c = 138 := (by omega); subst e9; have hb := bi_138 B n e at9; have h255 : eb (nmb B n (at9 + 1) 4 0) = 255 := fi_1 gI hif0 c166; rw [hb.1, if_pos h255]; exact nuA_y (by omega)))
                      · (first | (exfalso; omega) | (have e9 : c = 138 := (by omega); subst e9; have hb := bi_138 B n e at9; intro _; rw [hb.2.1, hb.2.2.1]; exact ⟨(show at9 + 5 = at9 + 1 + 4 by omega).trans (lk_y (by omega)), hnp⟩))
                      · (first | (exfalso; omega) | (intro h; exact absurd h (by decide)))
                      · (first | (exfalso; omega) | (exact htb))
                      · (first | (exfalso; omega) | (exact Or.inl rfl))
                · refine s_aload_n X dX6_binaryToken_121 rfl 0 rfl ?_
                  refine s_callIV X lk_X6_132 [4] [0, 1, 2, 3] (wr := [aB G a 3000 B, aB G yt 400 t, aI G yi 60 qi, aF G yd 60 qd]) rfl rfl (by decide) (by decide) (by decide) (c_X6_lacking (kl K) G o a po xt xi xd yt yi yd th n e dn at9 dp kd wh pl base sg row ror np nw nb ns nrw nir inf9 re nr (by omega)) rfl rfl dX6_binaryToken_122 rfl rfl (Nat.le_of_ble_eq_true rfl) (by decide) (fun z12 w12 h12 => ?_)
                  obtain ⟨rfl, rfl⟩ := h12
                  show SW K G 2 0 0 125 [(0, .ref o), (1, .int (iI c))] [.int (iI (if e = 0 then 0 else -7))] [aB G a 3000 B, aB G yt 400 t, aI G yi 60 qi, aF G yd 60 qd, oMo o th n a e dn (if e = 0 then at9 else n) dp po kd wh re pl base sg xt row ror xi xd np nw nr nb ns yt nrw nir yi yd inf9]
                  refine s_perm (ws' := [oMo o th n a e dn (if e = 0 then at9 else n) dp po kd wh re pl base sg xt row ror xi xd np nw nr nb ns yt nrw nir yi yd inf9, aB G a 3000 B, aB G yt 400 t, aI G yi 60 qi, aF G yd 60 qd]) [4, 0, 1, 2, 3] (by decide) rfl rfl ?_
                  refine s_iret X Y dX6_binaryToken_125 (rfl) ?_
                  refine ⟨(if e = 0 then at9 else n), np, nw, ns, nrw, nir, inf9, nr, t, qi, qd, ?_, rfl, ?_, ?_, ?_, ?_⟩
                  · (first | (exfalso; omega) | (have e9 : c = 138 := (by omega); subst e9; have hb := bi_138 B n e at9; exact (nuA_n (by omega)).trans hb.1.symm))
                  · (first | (exfalso; omega) | (have e9 : c = 138 := (by omega); subst e9; have hb := bi_138 B n e at9; intro h; rw [hb.2.1, hb.2.2.1]; exact ⟨lk_n (by omega) h, hnp⟩))
                  · (first | (exfalso; omega) | (intro h; exfalso; revert h; split <;> decide))
                  · (first | (exfalso; omega) | (exact htb))
                  · (first | (exfalso; omega) | (exact Or.inl rfl))
              · refine s_iload_n X dX6_binaryToken_106 rfl 1 rfl ?_
                refine s_sipush 139 X dX6_binaryToken_107 (by decide) ?_
                refine s_icmp_ne X 176 dX6_binaryToken_110 (by decide) (by omega) (fun c110 => ?_) (fun c110 => ?_)
                · refine s_iload_n X dX6_binaryToken_176 rfl 1 rfl ?_
                  refine s_sipush 141 X dX6_binaryToken_177 (by decide) ?_
                  refine s_icmp_ne X 191 dX6_binaryToken_180 (by decide) (by omega) (fun c180 => ?_) (fun c180 => ?_)
                  · refine s_iload_n X dX6_binaryToken_191 rfl 1 rfl ?_
                    refine s_sipush 142 X dX6_binaryToken_192 (by decide) ?_
                    refine s_icmp_ne X 205 dX6_binaryToken_195 (by decide) (by omega) (fun c195 => ?_) (fun c195 => ?_)
                    · refine s_iload_n X dX6_binaryToken_205 rfl 1 rfl ?_
                      refine s_sipush 143 X dX6_binaryToken_206 (by decide) ?_
                      refine s_icmp_eq X 219 dX6_binaryToken_209 (by decide) (by omega) (fun c209 => ?_) (fun c209 => ?_)
                      · refine s_aload_n X dX6_binaryToken_219 rfl 0 rfl ?_
                        refine s_iconst X dX6_binaryToken_220 ?_
                        refine s_iload_n X dX6_binaryToken_221 rfl 1 rfl ?_
                        refine s_sipush 144 X dX6_binaryToken_222 (by decide) ?_
                        refine s_icmp_ne X 232 dX6_binaryToken_225 (by decide) (by omega) (fun c225 => ?_) (fun c225 => ?_)
                        · refine s_iconst X dX6_binaryToken_232 ?_
                          refine s_callIV X lk_X6_206 [0, 1, 2] [3, 4] (wr := [aI G yi 60 qi, aF G yd 60 qd]) rfl rfl (by decide) (by decide) (by decide) (c_X6_string (kl K) G o a po xt xi xd yt yi yd th n e dn at9 dp kd wh pl base sg row ror np nw nb ns nrw nir inf9 re nr B t 2 0 (by assumption) (by assumption) (by omega) (by omega) (by omega) (by assumption) (by assumption) (by omega) (by omega)) rfl rfl dX6_binaryToken_233 rfl rfl (Nat.le_of_ble_eq_true rfl) (by decide) (fun z13 w13 h13 => ?_)
                          obtain ⟨at213, nw213, ns213, t213, rfl, rfl, f13_0, f13_1, f13_2⟩ := h13
                          show SW K G 2 0 0 236 [(0, .ref o), (1, .int (iI c))] [.int (iI (sbA B n e at9 2 0))] [aI G yi 60 qi, aF G yd 60 qd, oMo o th n a e dn at213 dp po kd wh re pl base sg xt row ror xi xd np nw213 nr nb ns213 yt nrw nir yi yd inf9, aB G a 3000 B, aB G yt 400 t213]
                          have g0 := f13_0
                          have g1 := f13_1
                          have g2 := f13_2
                          refine s_perm (ws' := [oMo o th n a e dn at213 dp po kd wh re pl base sg xt row ror xi xd np nw213 nr nb ns213 yt nrw nir yi yd inf9, aB G a 3000 B, aB G yt 400 t213, aI G yi 60 qi, aF G yd 60 qd]) [2, 3, 4, 0, 1] (by decide) rfl rfl ?_
                          refine s_iret X Y dX6_binaryToken_236 (rfl) ?_
                          refine ⟨at213, np, nw213, ns213, nrw, nir, inf9, nr, t213, qi, qd, ?_, rfl, ?_, ?_, ?_, ?_⟩
                          · (first | (exfalso; omega) | (have e9 : c = 143 := (by omega); subst e9; have hb := bi_143 B n e at9; exact hb.1.symm))
                          · (first | (exfalso; omega) | (have e9 : c = 143 := (by omega); subst e9; have hb := bi_143 B n e at9; intro h; rw [hb.2.1, hb.2.2.1]; exact ⟨g0 h, hnp⟩))
                          · (first | (exfalso; omega) | (have e9 : c = 143 := (by omega); subst e9; have hb := bi_143 B n e at9; intro h; have h6 := sbA_6 h; have h8 := (g1 h6).2.1; rw [wL_len] at h8; have h7 := sbA_le h6; exact BiG_6 h6 ((g1 h6).1.trans hb.2.2.2.1.symm) hb.2.2.2.2.1 ⟨by rw [hb.2.2.2.2.2.1]; exact (g1 h6).2, by omega⟩ hb.2.2.2.2.2.2))
                          · (first | (exfalso; omega) | (exact g2))
                          · (first | (exfalso; omega) | (exact Or.inl rfl))
                        · refine s_iconst X dX6_binaryToken_228 ?_
                          refine s_goto X 233 dX6_binaryToken_229 (by decide) ?_
                          refine s_callIV X lk_X6_206 [0, 1, 2] [3, 4] (wr := [aI G yi 60 qi, aF G yd 60 qd]) rfl rfl (by decide) (by decide) (by decide) (c_X6_string (kl K) G o a po xt xi xd yt yi yd th n e dn at9 dp kd wh pl base sg row ror np nw nb ns nrw nir inf9 re nr B t 2 1 (by assumption) (by assumption) (by omega) (by omega) (by omega) (by assumption) (by assumption) (by omega) (by omega)) rfl rfl dX6_binaryToken_233 rfl rfl (Nat.le_of_ble_eq_true rfl) (by decide) (fun z14 w14 h14 => ?_)
                          obtain ⟨at214, nw214, ns214, t214, rfl, rfl, f14_0, f14_1, f14_2⟩ := h14
                          show SW K G 2 0 0 236 [(0, .ref o), (1, .int (iI c))] [.int (iI (sbA B n e at9 2 1))] [aI G yi 60 qi, aF G yd 60 qd, oMo o th n a e dn at214 dp po kd wh re pl base sg xt row ror xi xd np nw214 nr nb ns214 yt nrw nir yi yd inf9, aB G a 3000 B, aB G yt 400 t214]
                          have g0 := f14_0
                          have g1 := f14_1
                          have g2 := f14_2
                          refine s_perm (ws' := [oMo o th n a e dn at214 dp po kd wh re pl base sg xt row ror xi xd np nw214 nr nb ns214 yt nrw nir yi yd inf9, aB G a 3000 B, aB G yt 400 t214, aI G yi 60 qi, aF G yd 60 qd]) [2, 3, 4, 0, 1] (by decide) rfl rfl ?_
                          refine s_iret X Y dX6_binaryToken_236 (rfl) ?_
                          refine ⟨at214, np, nw214, ns214, nrw, nir, inf9, nr, t214, qi, qd, ?_, rfl, ?_, ?_, ?_, ?_⟩
                          · (first | (exfalso; omega) | (have e9 : c = 143 := (by omega); subst e9; have hb := bi_143 B n e at9; exact hb.1.symm))
                          · (first | (exfalso; omega) | (have e9 : c = 143 := (by omega); subst e9; have hb := bi_143 B n e at9; intro h; rw [hb.2.1, hb.2.2.1]; exact ⟨g0 h, hnp⟩))
                          · (first | (exfalso; omega) | (have e9 : c = 143 := (by omega); subst e9; have hb := bi_143 B n e at9; intro h; have h6 := sbA_6 h; have h8 := (g1 h6).2.1; rw [wL_len] at h8; have h7 := sbA_le h6; exact BiG_6 h6 ((g1 h6).1.trans hb.2.2.2.1.symm) hb.2.2.2.2.1 ⟨by rw [hb.2.2.2.2.2.1]; exact (g1 h6).2, by omega⟩ hb.2.2.2.2.2.2))
                          · (first | (exfalso; omega) | (exact g2))
                          · (first | (exfalso; omega) | (exact Or.inl rfl))
                      · refine s_iload_n X dX6_binaryToken_212 rfl 1 rfl ?_
                        refine s_sipush 144 X dX6_binaryToken_213 (by decide) ?_
                        refine s_icmp_ne X 237 dX6_binaryToken_216 (by decide) (by omega) (fun c216 => ?_) (fun c216 => ?_)
                        · refine s_iload_n X dX6_binaryToken_237 rfl 1 rfl ?_
                          refine s_sipush 145 X dX6_binaryToken_238 (by decide) ?_
                          refine s_icmp_eq X 251 dX6_binaryToken_241 (by decide) (by omega) (fun c241 => ?_) (fun c241 => ?_)
                          · refine s_aload_n X dX6_binaryToken_251 rfl 0 rfl ?_
                            refine s_iload_n X dX6_binaryToken_252 rfl 1 rfl ?_
                            refine s_sipush 131 X dX6_binaryToken_253 (by decide) ?_
                            refine s_isub X dX6_binaryToken_256 ?_
                            refine s_iconst X dX6_binaryToken_257 ?_
                            refine s_callIV X lk_X6_203 [0, 1] [2, 3, 4] (wr := [aB G yt 400 t, aI G yi 60 qi, aF G yd 60 qd]) rfl rfl (by decide) (by decide) (by decide) (c_X6_one (kl K) G o a po xt xi xd yt yi yd th n e dn at9 dp kd wh pl base sg row ror np nw nb ns nrw nir inf9 re nr B (c - 131) 0 (by assumption) (by assumption) (by omega) (by omega) (by omega) (by omega) (by omega)) rfl rfl dX6_binaryToken_258 rfl rfl (Nat.le_of_ble_eq_true rfl) (by decide) (fun z15 w15 h15 => ?_)
                            obtain ⟨at215, np215, nw215, rfl, rfl, f15_0, f15_1⟩ := h15
                            show SW K G 2 0 0 261 [(0, .ref o), (1, .int (iI c))] [.int (iI (if 0 = 1 ∧ 1 < (bA B n (at9 + 1)) then -5 else nuA n e (at9 + 1 + 1) (c - 131)))] [aB G yt 400 t, aI G yi 60 qi, aF G yd 60 qd, oMo o th n a e dn at215 dp po kd wh re pl base sg xt row ror xi xd np215 nw215 nr nb ns yt nrw nir yi yd inf9, aB G a 3000 B]
                            have g0 := f15_0
                            have g1 := f15_1
                            refine s_perm (ws' := [oMo o th n a e dn at215 dp po kd wh re pl base sg xt row ror xi xd np215 nw215 nr nb ns yt nrw nir yi yd inf9, aB G a 3000 B, aB G yt 400 t, aI G yi 60 qi, aF G yd 60 qd]) [3, 4, 0, 1, 2] (by decide) rfl rfl ?_
                            refine s_iret X Y dX6_binaryToken_261 (rfl) ?_
                            refine ⟨at215, np215, nw215, ns, nrw, nir, inf9, nr, t, qi, qd, ?_, rfl, ?_, ?_, ?_, ?_⟩
                            · (first | (exfalso; omega) | (have e9 : c = 145 := (by omega); subst e9; have hb := bi_145 B n e at9; have e8 : (145 : Int) - 131 = 14 := rfl; rw [e8, one_0]; exact hb.1.symm))
                            · (first | (exfalso; omega) | (have e9 : c = 145 := (by omega); subst e9; have hb := bi_145 B n e at9; have e8 : (145 : Int) - 131 = 14 := rfl; intro h; rw [hb.2.1, hb.2.2.1]; have h9 := g0 h; rw [one_0] at h9; exact h9))
                            · (first | (exfalso; omega) | (have e9 : c = 145 := (by omega); subst e9; have hb := bi_145 B n e at9; have e8 : (145 : Int) - 131 = 14 := rfl; intro h; have h9 := g1 h; rw [e8] at h ⊢; rw [one_0] at h ⊢; exact BiG_1 (by have := (nuA_kd h).1; omega) (h9.trans hb.2.2.2.1.symm) hb.2.2.2.2.1 hb.2.2.2.2.2.1 hb.2.2.2.2.2.2))
                            · (first | (exfalso; omega) | (exact htb))
                            · (first | (exfalso; omega) | (exact Or.inl rfl))
                          · refine s_iload_n X dX6_binaryToken_244 rfl 1 rfl ?_
                            refine s_sipush 146 X dX6_binaryToken_245 (by decide) ?_
                            refine s_icmp_ne X 262 dX6_binaryToken_248 (by decide) (by omega) (fun c248 => ?_) (fun c248 => ?_)
                            · refine s_iload_n X dX6_binaryToken_262 rfl 1 rfl ?_
                              refine s_sipush 149 X dX6_binaryToken_263 (by decide) ?_
                              refine s_icmp_ne X 276 dX6_binaryToken_266 (by decide) (by omega) (fun c266 => ?_) (fun c266 => ?_)
                              · refine s_aload_n X dX6_binaryToken_276 rfl 0 rfl ?_
                                refine s_iconst X dX6_binaryToken_277 ?_
                                refine s_callIV X lk_X6_138 [0] [1, 2, 3, 4] (wr := [aB G a 3000 B, aB G yt 400 t, aI G yi 60 qi, aF G yd 60 qd]) rfl rfl (by decide) (by decide) (by decide) (c_X6_wrongByte (kl K) G o a po xt xi xd yt yi yd th n e dn at9 dp kd wh pl base sg row ror np nw nb ns nrw nir inf9 re nr 4) rfl rfl dX6_binaryToken_278 rfl rfl (Nat.le_of_ble_eq_true rfl) (by decide) (fun z16 w16 h16 => ?_)
                                obtain ⟨rfl, rfl⟩ := h16
                                show SW K G 2 0 0 281 [(0, .ref o), (1, .int (iI c))] [.int (iI (-1 - 4))] [aB G a 3000 B, aB G yt 400 t, aI G yi 60 qi, aF G yd 60 qd, oMo o th n a e dn (at9 + 1) dp po kd wh re pl base sg xt row ror xi xd at9 nw nr nb ns yt nrw nir yi yd inf9]
                                refine s_perm (ws' := [oMo o th n a e dn (at9 + 1) dp po kd wh re pl base sg xt row ror xi xd at9 nw nr nb ns yt nrw nir yi yd inf9, aB G a 3000 B, aB G yt 400 t, aI G yi 60 qi, aF G yd 60 qd]) [4, 0, 1, 2, 3] (by decide) rfl rfl ?_
                                refine s_iret X Y dX6_binaryToken_281 (rfl) ?_
                                refine ⟨(at9 + 1), at9, nw, ns, nrw, nir, inf9, nr, t, qi, qd, ?_, rfl, ?_, ?_, ?_, ?_⟩
                                · (first | (exfalso; omega) | (exact (show (-1 - 4 : Int) = -5 from rfl).trans (biA_d (show noB c from by refine ⟨?_, ?_, ?_, ?_, ?_, ?_, ?_, ?_, ?_, ?_, ?_, ?_, ?_, ?_, ?_⟩ <;> omega))))
                                · (first | (exfalso; omega) | (intro _; rw [biF_d (show noB c from by refine ⟨?_, ?_, ?_, ?_, ?_, ?_, ?_, ?_, ?_, ?_, ?_, ?_, ?_, ?_, ?_⟩ <;> omega), biP_d (show noB c from by refine ⟨?_, ?_, ?_, ?_, ?_, ?_, ?_, ?_, ?_, ?_, ?_, ?_, ?_, ?_, ?_⟩ <;> omega)]; exact ⟨rfl, rfl⟩))
                                · (first | (exfalso; omega) | (intro h; exact absurd h (by decide)))
                                · (first | (exfalso; omega) | (exact htb))
                                · (first | (exfalso; omega) | (exact Or.inl rfl))
                              · refine s_aload_n X dX6_binaryToken_269 rfl 0 rfl ?_
                                refine s_callIV X lk_X6_209 [0, 1, 3, 4] [2] (wr := [aB G yt 400 t]) rfl rfl (by decide) (by decide) (by decide) (c_X6_rows (kl K) G o a po xt xi xd yt yi yd th n e dn at9 dp kd wh pl base sg row ror np nw nb ns nrw nir inf9 re nr B qi qd (by assumption) (by assumption) (by omega) (by omega) (by omega) (by assumption)) rfl rfl dX6_binaryToken_270 rfl rfl (Nat.le_of_ble_eq_true rfl) (by decide) (fun z17 w17 h17 => ?_)
                                obtain ⟨at217, np217, nw217, nrw217, nir217, inf217, qi217, qd217, rfl, rfl, f17_0, f17_1, f17_2⟩ := h17
                                show SW K G 2 0 0 273 [(0, .ref o), (1, .int (iI c))] [.int (iI (rwA B n e at9))] [aB G yt 400 t, oMo o th n a e dn at217 dp po kd wh re pl base sg xt row ror xi xd np217 nw217 nr nb ns yt nrw217 nir217 yi yd inf217, aB G a 3000 B, aI G yi 60 qi217, aF G yd 60 qd217]
                                have g0 := f17_0
                                have g1 := f17_1
                                have g2 := f17_2
                                refine s_goto X 281 dX6_binaryToken_273 (by decide) ?_
                                refine s_perm (ws' := [oMo o th n a e dn at217 dp po kd wh re pl base sg xt row ror xi xd np217 nw217 nr nb ns yt nrw217 nir217 yi yd inf217, aB G a 3000 B, aB G yt 400 t, aI G yi 60 qi217, aF G yd 60 qd217]) [1, 2, 0, 3, 4] (by decide) rfl rfl ?_
                                refine s_iret X Y dX6_binaryToken_281 (rfl) ?_
                                refine ⟨at217, np217, nw217, ns, nrw217, nir217, inf217, nr, t, qi217, qd217, ?_, rfl, ?_, ?_, ?_, ?_⟩
                                · (first | (exfalso; omega) | (have e9 : c = 149 := (by omega); subst e9; have hb := bi_149 B n e at9; exact hb.1.symm))
                                · (first | (exfalso; omega) | (have e9 : c = 149 := (by omega); subst e9; have hb := bi_149 B n e at9; intro h; rw [hb.2.1, hb.2.2.1]; exact g0 h))
                                · (first | (exfalso; omega) | (have e9 : c = 149 := (by omega); subst e9; have hb := bi_149 B n e at9; intro h; have h6 := rwA_16 h; rw [h6]; exact BiG_16 hBb hap.1 h6 (g1 h6)))
                                · (first | (exfalso; omega) | (exact htb))
                                · (first | (exfalso; omega) | (exact g2))
                            · refine s_aload_n X dX6_binaryToken_251 rfl 0 rfl ?_
                              refine s_iload_n X dX6_binaryToken_252 rfl 1 rfl ?_
                              refine s_sipush 131 X dX6_binaryToken_253 (by decide) ?_
                              refine s_isub X dX6_binaryToken_256 ?_
                              refine s_iconst X dX6_binaryToken_257 ?_
                              refine s_callIV X lk_X6_203 [0, 1] [2, 3, 4] (wr := [aB G yt 400 t, aI G yi 60 qi, aF G yd 60 qd]) rfl rfl (by decide) (by decide) (by decide) (c_X6_one (kl K) G o a po xt xi xd yt yi yd th n e dn at9 dp kd wh pl base sg row ror np nw nb ns nrw nir inf9 re nr B (c - 131) 0 (by assumption) (by assumption) (by omega) (by omega) (by omega) (by omega) (by omega)) rfl rfl dX6_binaryToken_258 rfl rfl (Nat.le_of_ble_eq_true rfl) (by decide) (fun z18 w18 h18 => ?_)
                              obtain ⟨at218, np218, nw218, rfl, rfl, f18_0, f18_1⟩ := h18
                              show SW K G 2 0 0 261 [(0, .ref o), (1, .int (iI c))] [.int (iI (if 0 = 1 ∧ 1 < (bA B n (at9 + 1)) then -5 else nuA n e (at9 + 1 + 1) (c - 131)))] [aB G yt 400 t, aI G yi 60 qi, aF G yd 60 qd, oMo o th n a e dn at218 dp po kd wh re pl base sg xt row ror xi xd np218 nw218 nr nb ns yt nrw nir yi yd inf9, aB G a 3000 B]
                              have g0 := f18_0
                              have g1 := f18_1
                              refine s_perm (ws' := [oMo o th n a e dn at218 dp po kd wh re pl base sg xt row ror xi xd np218 nw218 nr nb ns yt nrw nir yi yd inf9, aB G a 3000 B, aB G yt 400 t, aI G yi 60 qi, aF G yd 60 qd]) [3, 4, 0, 1, 2] (by decide) rfl rfl ?_
                              refine s_iret X Y dX6_binaryToken_261 (rfl) ?_
                              refine ⟨at218, np218, nw218, ns, nrw, nir, inf9, nr, t, qi, qd, ?_, rfl, ?_, ?_, ?_, ?_⟩
                              · (first | (exfalso; omega) | (have e9 : c = 146 := (by omega); subst e9; have hb := bi_146 B n e at9; have e8 : (146 : Int) - 131 = 15 := rfl; rw [e8, one_0]; exact hb.1.symm))
                              · (first | (exfalso; omega) | (have e9 : c = 146 := (by omega); subst e9; have hb := bi_146 B n e at9; have e8 : (146 : Int) - 131 = 15 := rfl; intro h; rw [hb.2.1, hb.2.2.1]; have h9 := g0 h; rw [one_0] at h9; exact h9))
                              · (first | (exfalso; omega) | (have e9 : c = 146 := (by omega); subst e9; have hb := bi_146 B n e at9; have e8 : (146 : Int) - 131 = 15 := rfl; intro h; have h9 := g1 h; rw [e8] at h ⊢; rw [one_0] at h ⊢; exact BiG_1 (by have := (nuA_kd h).1; omega) (h9.trans hb.2.2.2.1.symm) hb.2.2.2.2.1 hb.2.2.2.2.2.1 hb.2.2.2.2.2.2))
                              · (first | (exfalso; omega) | (exact htb))
                              · (first | (exfalso; omega) | (exact Or.inl rfl))
                        · refine s_aload_n X dX6_binaryToken_219 rfl 0 rfl ?_
                          refine s_iconst X dX6_binaryToken_220 ?_
                          refine s_iload_n X dX6_binaryToken_221 rfl 1 rfl ?_
                          refine s_sipush 144 X dX6_binaryToken_222 (by decide) ?_
                          refine s_icmp_ne X 232 dX6_binaryToken_225 (by decide) (by omega) (fun c225 => ?_) (fun c225 => ?_)
                          · refine s_iconst X dX6_binaryToken_232 ?_
                            refine s_callIV X lk_X6_206 [0, 1, 2] [3, 4] (wr := [aI G yi 60 qi, aF G yd 60 qd]) rfl rfl (by decide) (by decide) (by decide) (c_X6_string (kl K) G o a po xt xi xd yt yi yd th n e dn at9 dp kd wh pl base sg row ror np nw nb ns nrw nir inf9 re nr B t 2 0 (by assumption) (by assumption) (by omega) (by omega) (by omega) (by assumption) (by assumption) (by omega) (by omega)) rfl rfl dX6_binaryToken_233 rfl rfl (Nat.le_of_ble_eq_true rfl) (by decide) (fun z19 w19 h19 => ?_)
                            obtain ⟨at219, nw219, ns219, t219, rfl, rfl, f19_0, f19_1, f19_2⟩ := h19
                            show SW K G 2 0 0 236 [(0, .ref o), (1, .int (iI c))] [.int (iI (sbA B n e at9 2 0))] [aI G yi 60 qi, aF G yd 60 qd, oMo o th n a e dn at219 dp po kd wh re pl base sg xt row ror xi xd np nw219 nr nb ns219 yt nrw nir yi yd inf9, aB G a 3000 B, aB G yt 400 t219]
                            have g0 := f19_0
                            have g1 := f19_1
                            have g2 := f19_2
                            refine s_perm (ws' := [oMo o th n a e dn at219 dp po kd wh re pl base sg xt row ror xi xd np nw219 nr nb ns219 yt nrw nir yi yd inf9, aB G a 3000 B, aB G yt 400 t219, aI G yi 60 qi, aF G yd 60 qd]) [2, 3, 4, 0, 1] (by decide) rfl rfl ?_
                            refine s_iret X Y dX6_binaryToken_236 (rfl) ?_
                            refine ⟨at219, np, nw219, ns219, nrw, nir, inf9, nr, t219, qi, qd, ?_, rfl, ?_, ?_, ?_, ?_⟩
                            · (first | (exfalso; omega) | (have e9 : c = 144 := (by omega); subst e9; have hb := bi_144 B n e at9; exact hb.1.symm))
                            · (first | (exfalso; omega) | (have e9 : c = 144 := (by omega); subst e9; have hb := bi_144 B n e at9; intro h; rw [hb.2.1, hb.2.2.1]; exact ⟨g0 h, hnp⟩))
                            · (first | (exfalso; omega) | (have e9 : c = 144 := (by omega); subst e9; have hb := bi_144 B n e at9; intro h; have h6 := sbA_6 h; have h8 := (g1 h6).2.1; rw [wL_len] at h8; have h7 := sbA_le h6; exact BiG_6 h6 ((g1 h6).1.trans hb.2.2.2.1.symm) hb.2.2.2.2.1 ⟨by rw [hb.2.2.2.2.2.1]; exact (g1 h6).2, by omega⟩ hb.2.2.2.2.2.2))
                            · (first | (exfalso; omega) | (exact g2))
                            · (first | (exfalso; omega) | (exact Or.inl rfl))
                          · refine s_iconst X dX6_binaryToken_228 ?_
                            refine s_goto X 233 dX6_binaryToken_229 (by decide) ?_
                            refine s_callIV X lk_X6_206 [0, 1, 2] [3, 4] (wr := [aI G yi 60 qi, aF G yd 60 qd]) rfl rfl (by decide) (by decide) (by decide) (c_X6_string (kl K) G o a po xt xi xd yt yi yd th n e dn at9 dp kd wh pl base sg row ror np nw nb ns nrw nir inf9 re nr B t 2 1 (by assumption) (by assumption) (by omega) (by omega) (by omega) (by assumption) (by assumption) (by omega) (by omega)) rfl rfl dX6_binaryToken_233 rfl rfl (Nat.le_of_ble_eq_true rfl) (by decide) (fun z20 w20 h20 => ?_)
                            obtain ⟨at220, nw220, ns220, t220, rfl, rfl, f20_0, f20_1, f20_2⟩ := h20
                            show SW K G 2 0 0 236 [(0, .ref o), (1, .int (iI c))] [.int (iI (sbA B n e at9 2 1))] [aI G yi 60 qi, aF G yd 60 qd, oMo o th n a e dn at220 dp po kd wh re pl base sg xt row ror xi xd np nw220 nr nb ns220 yt nrw nir yi yd inf9, aB G a 3000 B, aB G yt 400 t220]
                            have g0 := f20_0
                            have g1 := f20_1
                            have g2 := f20_2
                            refine s_perm (ws' := [oMo o th n a e dn at220 dp po kd wh re pl base sg xt row ror xi xd np nw220 nr nb ns220 yt nrw nir yi yd inf9, aB G a 3000 B, aB G yt 400 t220, aI G yi 60 qi, aF G yd 60 qd]) [2, 3, 4, 0, 1] (by decide) rfl rfl ?_
                            refine s_iret X Y dX6_binaryToken_236 (rfl) ?_
                            refine ⟨at220, np, nw220, ns220, nrw, nir, inf9, nr, t220, qi, qd, ?_, rfl, ?_, ?_, ?_, ?_⟩
                            · (first | (exfalso; omega) | (have e9 : c = 144 := (by omega); subst e9; have hb := bi_144 B n e at9; exact hb.1.symm))
                            · (first | (exfalso; omega) | (have e9 : c = 144 := (by omega); subst e9; have hb := bi_144 B n e at9; intro h; rw [hb.2.1, hb.2.2.1]; exact ⟨g0 h, hnp⟩))
                            · (first | (exfalso; omega) | (have e9 : c = 144 := (by omega); subst e9; have hb := bi_144 B n e at9; intro h; have h6 := sbA_6 h; have h8 := (g1 h6).2.1; rw [wL_len] at h8; have h7 := sbA_le h6; exact BiG_6 h6 ((g1 h6).1.trans hb.2.2.2.1.symm) hb.2.2.2.2.1 ⟨by rw [hb.2.2.2.2.2.1]; exact (g1 h6).2, by omega⟩ hb.2.2.2.2.2.2))
                            · (first | (exfalso; omega) | (exact g2))
                            · (first | (exfalso; omega) | (exact Or.inl rfl))
                    · refine s_aload_n X dX6_binaryToken_198 rfl 0 rfl ?_
                      refine s_iconst X dX6_binaryToken_199 ?_
                      refine s_iconst X dX6_binaryToken_200 ?_
                      refine s_callIV X lk_X6_206 [0, 1, 2] [3, 4] (wr := [aI G yi 60 qi, aF G yd 60 qd]) rfl rfl (by decide) (by decide) (by decide) (c_X6_string (kl K) G o a po xt xi xd yt yi yd th n e dn at9 dp kd wh pl base sg row ror np nw nb ns nrw nir inf9 re nr B t 1 0 (by assumption) (by assumption) (by omega) (by omega) (by omega) (by assumption) (by assumption) (by omega) (by omega)) rfl rfl dX6_binaryToken_201 rfl rfl (Nat.le_of_ble_eq_true rfl) (by decide) (fun z21 w21 h21 => ?_)
                      obtain ⟨at221, nw221, ns221, t221, rfl, rfl, f21_0, f21_1, f21_2⟩ := h21
                      show SW K G 2 0 0 204 [(0, .ref o), (1, .int (iI c))] [.int (iI (sbA B n e at9 1 0))] [aI G yi 60 qi, aF G yd 60 qd, oMo o th n a e dn at221 dp po kd wh re pl base sg xt row ror xi xd np nw221 nr nb ns221 yt nrw nir yi yd inf9, aB G a 3000 B, aB G yt 400 t221]
                      have g0 := f21_0
                      have g1 := f21_1
                      have g2 := f21_2
                      refine s_perm (ws' := [oMo o th n a e dn at221 dp po kd wh re pl base sg xt row ror xi xd np nw221 nr nb ns221 yt nrw nir yi yd inf9, aB G a 3000 B, aB G yt 400 t221, aI G yi 60 qi, aF G yd 60 qd]) [2, 3, 4, 0, 1] (by decide) rfl rfl ?_
                      refine s_iret X Y dX6_binaryToken_204 (rfl) ?_
                      refine ⟨at221, np, nw221, ns221, nrw, nir, inf9, nr, t221, qi, qd, ?_, rfl, ?_, ?_, ?_, ?_⟩
                      · (first | (exfalso; omega) | (have e9 : c = 142 := (by omega); subst e9; have hb := bi_142 B n e at9; exact hb.1.symm))
                      · (first | (exfalso; omega) | (have e9 : c = 142 := (by omega); subst e9; have hb := bi_142 B n e at9; intro h; rw [hb.2.1, hb.2.2.1]; exact ⟨g0 h, hnp⟩))
                      · (first | (exfalso; omega) | (have e9 : c = 142 := (by omega); subst e9; have hb := bi_142 B n e at9; intro h; have h6 := sbA_6 h; have h8 := (g1 h6).2.1; rw [wL_len] at h8; have h7 := sbA_le h6; exact BiG_6 h6 ((g1 h6).1.trans hb.2.2.2.1.symm) hb.2.2.2.2.1 ⟨by rw [hb.2.2.2.2.2.1]; exact (g1 h6).2, by omega⟩ hb.2.2.2.2.2.2))
                      · (first | (exfalso; omega) | (exact g2))
                      · (first | (exfalso; omega) | (exact Or.inl rfl))
                  · refine s_aload_n X dX6_binaryToken_183 rfl 0 rfl ?_
                    refine s_bipush 13 X dX6_binaryToken_184 (by decide) ?_
                    refine s_iconst X dX6_binaryToken_186 ?_
                    refine s_callIV X lk_X6_203 [0, 1] [2, 3, 4] (wr := [aB G yt 400 t, aI G yi 60 qi, aF G yd 60 qd]) rfl rfl (by decide) (by decide) (by decide) (c_X6_one (kl K) G o a po xt xi xd yt yi yd th n e dn at9 dp kd wh pl base sg row ror np nw nb ns nrw nir inf9 re nr B 13 1 (by assumption) (by assumption) (by omega) (by omega) (by omega) (by omega) (by omega)) rfl rfl dX6_binaryToken_187 rfl rfl (Nat.le_of_ble_eq_true rfl) (by decide) (fun z22 w22 h22 => ?_)
                    obtain ⟨at222, np222, nw222, rfl, rfl, f22_0, f22_1⟩ := h22
                    show SW K G 2 0 0 190 [(0, .ref o), (1, .int (iI c))] [.int (iI (if 1 = 1 ∧ 1 < (bA B n (at9 + 1)) then -5 else nuA n e (at9 + 1 + 1) 13))] [aB G yt 400 t, aI G yi 60 qi, aF G yd 60 qd, oMo o th n a e dn at222 dp po kd wh re pl base sg xt row ror xi xd np222 nw222 nr nb ns yt nrw nir yi yd inf9, aB G a 3000 B]
                    have g0 := f22_0
                    have g1 := f22_1
                    refine s_perm (ws' := [oMo o th n a e dn at222 dp po kd wh re pl base sg xt row ror xi xd np222 nw222 nr nb ns yt nrw nir yi yd inf9, aB G a 3000 B, aB G yt 400 t, aI G yi 60 qi, aF G yd 60 qd]) [3, 4, 0, 1, 2] (by decide) rfl rfl ?_
                    refine s_iret X Y dX6_binaryToken_190 (rfl) ?_
                    refine ⟨at222, np222, nw222, ns, nrw, nir, inf9, nr, t, qi, qd, ?_, rfl, ?_, ?_, ?_, ?_⟩
                    · (first | (exfalso; omega) | (have e9 : c = 141 := (by omega); subst e9; have hb := bi_141 B n e at9; rw [one_1]; exact hb.1.symm))
                    · (first | (exfalso; omega) | (have e9 : c = 141 := (by omega); subst e9; have hb := bi_141 B n e at9; intro h; rw [hb.2.1, hb.2.2.1]; have h9 := g0 h; rw [one_1] at h9; exact h9))
                    · (first | (exfalso; omega) | (have e9 : c = 141 := (by omega); subst e9; have hb := bi_141 B n e at9; intro h; have h9 := g1 h; rw [one_1] at h ⊢; exact BiG_1 (Or.inr (Or.inl (tr_13 h))) (h9.trans hb.2.2.2.1.symm) hb.2.2.2.2.1 hb.2.2.2.2.2.1 hb.2.2.2.2.2.2))
                    · (first | (exfalso; omega) | (exact htb))
                    · (first | (exfalso; omega) | (exact Or.inl rfl))
                · refine s_aload_n X dX6_binaryToken_113 rfl 0 rfl ?_
                  refine s_iconst X dX6_binaryToken_114 ?_
                  refine s_callIV X lk_X6_180 [0] [1, 2, 3, 4] (wr := [aB G a 3000 B, aB G yt 400 t, aI G yi 60 qi, aF G yd 60 qd]) rfl rfl (by decide) (by decide) (by decide) (c_X6_came (kl K) G o a po xt xi xd yt yi yd th n e dn at9 dp kd wh pl base sg row ror np nw nb ns nrw nir inf9 re nr 5 (by omega)) rfl rfl dX6_binaryToken_115 rfl rfl (Nat.le_of_ble_eq_true rfl) (by decide) (fun z23 w23 h23 => ?_)
                  obtain ⟨rfl, rfl⟩ := h23
                  show SW K G 2 0 0 118 [(0, .ref o), (1, .int (iI c))] [.int (iI (tf (np + 5 ≤ n)))] [aB G a 3000 B, aB G yt 400 t, aI G yi 60 qi, aF G yd 60 qd, oMo o th n a e dn at9 dp po kd wh re pl base sg xt row ror xi xd np nw nr nb ns yt nrw nir yi yd inf9]
                  refine s_tf_ne X 126 dX6_binaryToken_118 (by decide) (fun c118 => ?_) (fun c118 => ?_)
                  · refine s_aload_n X dX6_binaryToken_126 rfl 0 rfl ?_
                    refine s_aload_n X dX6_binaryToken_127 rfl 0 rfl ?_
                    refine s_aload_n X dX6_binaryToken_128 rfl 0 rfl ?_
                    refine s_get X dX6_binaryToken_129 fl_X6_102 4 rfl rfl ?_
                    refine s_iconst X dX6_binaryToken_132 ?_
                    refine s_iadd X dX6_binaryToken_133 ?_
                    refine s_iload_n X dX6_binaryToken_134 rfl 1 rfl ?_
                    refine s_sipush 139 X dX6_binaryToken_135 (by decide) ?_
                    refine s_icmp_ne X 145 dX6_binaryToken_138 (by decide) (by omega) (fun c138 => ?_) (fun c138 => ?_)
                    · refine s_iconst X dX6_binaryToken_145 ?_
                      refine s_callDV X lk_X6_186 [4, 0] [1, 2, 3] (wr := [aB G yt 400 t, aI G yi 60 qi, aF G yd 60 qd]) rfl rfl (by decide) (by decide) (by decide) (c_X6_four (kl K) G o a po xt xi xd yt yi yd th n e dn at9 dp kd wh pl base sg row ror np nw nb ns nrw nir inf9 re nr B (at9 + 1) 0 (by assumption) (by assumption) (by omega) (by omega) (by omega)) rfl rfl dX6_binaryToken_146 rfl rfl (Nat.le_of_ble_eq_true rfl) (by decide) (fun z24 w24 h24 => ?_)
                      obtain ⟨inf224, rfl, rfl, f24_0⟩ := h24
                      show SW K G 2 0 0 149 [(0, .ref o), (1, .int (iI c))] [.double (flV (nmb B n (at9 + 1) 4 0)), .ref o] [aB G yt 400 t, aI G yi 60 qi, aF G yd 60 qd, oMo o th n a e dn at9 dp po kd wh re pl base sg xt row ror xi xd np nw nr nb ns yt nrw nir yi yd inf224, aB G a 3000 B]
                      have gI := f24_0
                      have gI2 := fi_01 gI
                      refine s_put X dX6_binaryToken_149 fl_X6_93 tyX6_ok nmX6 3 rfl rfl (rfl) (rfl) (Nat.le_of_ble_eq_true rfl) [aB G yt 400 t, aI G yi 60 qi, aF G yd 60 qd, oMo o th n a e dn at9 dp po kd wh re pl base sg xt row ror xi xd np nw (flV (nmb B n (at9 + 1) 4 0)) nb ns yt nrw nir yi yd inf224, aB G a 3000 B] rfl ?_
                      refine s_aload_n X dX6_binaryToken_152 rfl 0 rfl ?_
                      refine s_aload_n X dX6_binaryToken_153 rfl 0 rfl ?_
                      refine s_get X dX6_binaryToken_154 fl_X6_102 3 rfl rfl ?_
                      refine s_iconst X dX6_binaryToken_157 ?_
                      refine s_iadd X dX6_binaryToken_158 ?_
                      refine s_put X dX6_binaryToken_159 fl_X6_102 tyX6_ok nmX6 3 rfl rfl (rfl) (rfl) (Nat.le_of_ble_eq_true rfl) [aB G yt 400 t, aI G yi 60 qi, aF G yd 60 qd, oMo o th n a e dn (at9 + 5) dp po kd wh re pl base sg xt row ror xi xd np nw (flV (nmb B n (at9 + 1) 4 0)) nb ns yt nrw nir yi yd inf224, aB G a 3000 B] rfl ?_
                      refine s_aload_n X dX6_binaryToken_162 rfl 0 rfl ?_
                      refine s_get X dX6_binaryToken_163 fl_X6_171 3 rfl rfl ?_
                      refine s_if_eq X 174 dX6_binaryToken_166 (by decide) (by omega) (fun c166 => ?_) (fun c166 => ?_)
                      · refine s_iconst X dX6_binaryToken_174 ?_
                        refine s_perm (ws' := [oMo o th n a e dn (at9 + 5) dp po kd wh re pl base sg xt row ror xi xd np nw (flV (nmb B n (at9 + 1) 4 0)) nb ns yt nrw nir yi yd inf224, aB G a 3000 B, aB G yt 400 t, aI G yi 60 qi, aF G yd 60 qd]) [3, 4, 0, 1, 2] (by decide) rfl rfl ?_
                        refine s_iret X Y dX6_binaryToken_175 (rfl) ?_
                        refine ⟨(at9 + 5), np, nw, ns, nrw, nir, inf224, (flV (nmb B n (at9 + 1) 4 0)), t, qi, qd, ?_, rfl, ?_, ?_, ?_, ?_⟩
                        · (first | (exfalso; omega) | (have e9 : c = 139 := (by omega); subst e9; have hb := bi_139 B n e at9; have h255 : ¬ eb (nmb B n (at9 + 1) 4 1) = 255 := fi_0 gI c166; rw [hb.1, if_neg h255]; exact nuA_y (by omega)))
                        · (first | (exfalso; omega) | (have e9 : c = 139 := (by omega); subst e9; have hb := bi_139 B n e at9; intro _; rw [hb.2.1, hb.2.2.1]; exact ⟨(show at9 + 5 = at9 + 1 + 4 by omega).trans (lk_y (by omega)), hnp⟩))
                        · (first | (exfalso; omega) | (have e9 : c = 139 := (by omega); subst e9; have hb := bi_139 B n e at9; intro _; exact BiG_2 rfl hb.2.2.2.1 hb.2.2.2.2.1.symm hb.2.2.2.2.2.1 hb.2.2.2.2.2.2))
                        · (first | (exfalso; omega) | (exact htb))
                        · (first | (exfalso; omega) | (exact Or.inl rfl))
                      · refine s_bipush (-6) X dX6_binaryToken_169 (by decide) ?_
                        refine s_goto X 175 dX6_binaryToken_171 (by decide) ?_
                        refine s_perm (ws' := [oMo o th n a e dn (at9 + 5) dp po kd wh re pl base sg xt row ror xi xd np nw (flV (nmb B n (at9 + 1) 4 0)) nb ns yt nrw nir yi yd inf224, aB G a 3000 B, aB G yt 400 t, aI G yi 60 qi, aF G yd 60 qd]) [3, 4, 0, 1, 2] (by decide) rfl rfl ?_
                        refine s_iret X Y dX6_binaryToken_175 (rfl) ?_
                        refine ⟨(at9 + 5), np, nw, ns, nrw, nir, inf224, (flV (nmb B n (at9 + 1) 4 0)), t, qi, qd, ?_, rfl, ?_, ?_, ?_, ?_⟩
                        · (first | (exfalso; omega) | (have e9 : c = 139 := (by omega); subst e9; have hb := bi_139 B n e at9; have h255 : eb (nmb B n (at9 + 1) 4 1) = 255 := fi_1 gI hif0 c166; rw [hb.1, if_pos h255]; exact nuA_y (by omega)))
                        · (first | (exfalso; omega) | (have e9 : c = 139 := (by omega); subst e9; have hb := bi_139 B n e at9; intro _; rw [hb.2.1, hb.2.2.1]; exact ⟨(show at9 + 5 = at9 + 1 + 4 by omega).trans (lk_y (by omega)), hnp⟩))
                        · (first | (exfalso; omega) | (intro h; exact absurd h (by decide)))
                        · (first | (exfalso; omega) | (exact htb))
                        · (first | (exfalso; omega) | (exact Or.inl rfl))
                    · refine s_iconst X dX6_binaryToken_141 ?_
                      refine s_goto X 146 dX6_binaryToken_142 (by decide) ?_
                      refine s_callDV X lk_X6_186 [4, 0] [1, 2, 3] (wr := [aB G yt 400 t, aI G yi 60 qi, aF G yd 60 qd]) rfl rfl (by decide) (by decide) (by decide) (c_X6_four (kl K) G o a po xt xi xd yt yi yd th n e dn at9 dp kd wh pl base sg row ror np nw nb ns nrw nir inf9 re nr B (at9 + 1) 1 (by assumption) (by assumption) (by omega) (by omega) (by omega)) rfl rfl dX6_binaryToken_146 rfl rfl (Nat.le_of_ble_eq_true rfl) (by decide) (fun z25 w25 h25 => ?_)
                      obtain ⟨inf225, rfl, rfl, f25_0⟩ := h25
                      show SW K G 2 0 0 149 [(0, .ref o), (1, .int (iI c))] [.double (flV (nmb B n (at9 + 1) 4 1)), .ref o] [aB G yt 400 t, aI G yi 60 qi, aF G yd 60 qd, oMo o th n a e dn at9 dp po kd wh re pl base sg xt row ror xi xd np nw nr nb ns yt nrw nir yi yd inf225, aB G a 3000 B]
                      have gI := f25_0
                      have gI2 := fi_01 gI
                      refine s_put X dX6_binaryToken_149 fl_X6_93 tyX6_ok nmX6 3 rfl rfl (rfl) (rfl) (Nat.le_of_ble_eq_true rfl) [aB G yt 400 t, aI G yi 60 qi, aF G yd 60 qd, oMo o th n a e dn at9 dp po kd wh re pl base sg xt row ror xi xd np nw (flV (nmb B n (at9 + 1) 4 1)) nb ns yt nrw nir yi yd inf225, aB G a 3000 B] rfl ?_
                      refine s_aload_n X dX6_binaryToken_152 rfl 0 rfl ?_
                      refine s_aload_n X dX6_binaryToken_153 rfl 0 rfl ?_
                      refine s_get X dX6_binaryToken_154 fl_X6_102 3 rfl rfl ?_
                      refine s_iconst X dX6_binaryToken_157 ?_
                      refine s_iadd X dX6_binaryToken_158 ?_
                      refine s_put X dX6_binaryToken_159 fl_X6_102 tyX6_ok nmX6 3 rfl rfl (rfl) (rfl) (Nat.le_of_ble_eq_true rfl) [aB G yt 400 t, aI G yi 60 qi, aF G yd 60 qd, oMo o th n a e dn (at9 + 5) dp po kd wh re pl base sg xt row ror xi xd np nw (flV (nmb B n (at9 + 1) 4 1)) nb ns yt nrw nir yi yd inf225, aB G a 3000 B] rfl ?_
                      refine s_aload_n X dX6_binaryToken_162 rfl 0 rfl ?_
                      refine s_get X dX6_binaryToken_163 fl_X6_171 3 rfl rfl ?_
                      refine s_if_eq X 174 dX6_binaryToken_166 (by decide) (by omega) (fun c166 => ?_) (fun c166 => ?_)
                      · refine s_iconst X dX6_binaryToken_174 ?_
                        refine s_perm (ws' := [oMo o th n a e dn (at9 + 5) dp po kd wh re pl base sg xt row ror xi xd np nw (flV (nmb B n (at9 + 1) 4 1)) nb ns yt nrw nir yi yd inf225, aB G a 3000 B, aB G yt 400 t, aI G yi 60 qi, aF G yd 60 qd]) [3, 4, 0, 1, 2] (by decide) rfl rfl ?_
                        refine s_iret X Y dX6_binaryToken_175 (rfl) ?_
                        refine ⟨(at9 + 5), np, nw, ns, nrw, nir, inf225, (flV (nmb B n (at9 + 1) 4 1)), t, qi, qd, ?_, rfl, ?_, ?_, ?_, ?_⟩
                        · (first | (exfalso; omega) | (have e9 : c = 139 := (by omega); subst e9; have hb := bi_139 B n e at9; have h255 : ¬ eb (nmb B n (at9 + 1) 4 1) = 255 := fi_0 gI c166; rw [hb.1, if_neg h255]; exact nuA_y (by omega)))
                        · (first | (exfalso; omega) | (have e9 : c = 139 := (by omega); subst e9; have hb := bi_139 B n e at9; intro _; rw [hb.2.1, hb.2.2.1]; exact ⟨(show at9 + 5 = at9 + 1 + 4 by omega).trans (lk_y (by omega)), hnp⟩))
                        · (first | (exfalso; omega) | (have e9 : c = 139 := (by omega); subst e9; have hb := bi_139 B n e at9; intro _; exact BiG_2 rfl hb.2.2.2.1 hb.2.2.2.2.1.symm hb.2.2.2.2.2.1 hb.2.2.2.2.2.2))
                        · (first | (exfalso; omega) | (exact htb))
                        · (first | (exfalso; omega) | (exact Or.inl rfl))
                      · refine s_bipush (-6) X dX6_binaryToken_169 (by decide) ?_
                        refine s_goto X 175 dX6_binaryToken_171 (by decide) ?_
                        refine s_perm (ws' := [oMo o th n a e dn (at9 + 5) dp po kd wh re pl base sg xt row ror xi xd np nw (flV (nmb B n (at9 + 1) 4 1)) nb ns yt nrw nir yi yd inf225, aB G a 3000 B, aB G yt 400 t, aI G yi 60 qi, aF G yd 60 qd]) [3, 4, 0, 1, 2] (by decide) rfl rfl ?_
                        refine s_iret X Y dX6_binaryToken_175 (rfl) ?_
                        refine ⟨(at9 + 5), np, nw, ns, nrw, nir, inf225, (flV (nmb B n (at9 + 1) 4 1)), t, qi, qd, ?_, rfl, ?_, ?_, ?_, ?_⟩
                        · (first | (exfalso; omega) | (have e9 : c = 139 := (by omega); subst e9; have hb := bi_139 B n e at9; have h255 : eb (nmb B n (at9 + 1) 4 1) = 255 := fi_1 gI hif0 c166; rw [hb.1, if_pos h255]; exact nuA_y (by omega)))
                        · (first | (exfalso; omega) | (have e9 : c = 139 := (by omega); subst e9; have hb := bi_139 B n e at9; intro _; rw [hb.2.1, hb.2.2.1]; exact ⟨(show at9 + 5 = at9 + 1 + 4 by omega).trans (lk_y (by omega)), hnp⟩))
                        · (first | (exfalso; omega) | (intro h; exact absurd h (by decide)))
                        · (first | (exfalso; omega) | (exact htb))
                        · (first | (exfalso; omega) | (exact Or.inl rfl))
                  · refine s_aload_n X dX6_binaryToken_121 rfl 0 rfl ?_
                    refine s_callIV X lk_X6_132 [4] [0, 1, 2, 3] (wr := [aB G a 3000 B, aB G yt 400 t, aI G yi 60 qi, aF G yd 60 qd]) rfl rfl (by decide) (by decide) (by decide) (c_X6_lacking (kl K) G o a po xt xi xd yt yi yd th n e dn at9 dp kd wh pl base sg row ror np nw nb ns nrw nir inf9 re nr (by omega)) rfl rfl dX6_binaryToken_122 rfl rfl (Nat.le_of_ble_eq_true rfl) (by decide) (fun z26 w26 h26 => ?_)
                    obtain ⟨rfl, rfl⟩ := h26
                    show SW K G 2 0 0 125 [(0, .ref o), (1, .int (iI c))] [.int (iI (if e = 0 then 0 else -7))] [aB G a 3000 B, aB G yt 400 t, aI G yi 60 qi, aF G yd 60 qd, oMo o th n a e dn (if e = 0 then at9 else n) dp po kd wh re pl base sg xt row ror xi xd np nw nr nb ns yt nrw nir yi yd inf9]
                    refine s_perm (ws' := [oMo o th n a e dn (if e = 0 then at9 else n) dp po kd wh re pl base sg xt row ror xi xd np nw nr nb ns yt nrw nir yi yd inf9, aB G a 3000 B, aB G yt 400 t, aI G yi 60 qi, aF G yd 60 qd]) [4, 0, 1, 2, 3] (by decide) rfl rfl ?_
                    refine s_iret X Y dX6_binaryToken_125 (rfl) ?_
                    refine ⟨(if e = 0 then at9 else n), np, nw, ns, nrw, nir, inf9, nr, t, qi, qd, ?_, rfl, ?_, ?_, ?_, ?_⟩
                    · (first | (exfalso; omega) | (have e9 : c = 139 := (by omega); subst e9; have hb := bi_139 B n e at9; exact (nuA_n (by omega)).trans hb.1.symm))
                    · (first | (exfalso; omega) | (have e9 : c = 139 := (by omega); subst e9; have hb := bi_139 B n e at9; intro h; rw [hb.2.1, hb.2.2.1]; exact ⟨lk_n (by omega) h, hnp⟩))
                    · (first | (exfalso; omega) | (intro h; exfalso; revert h; split <;> decide))
                    · (first | (exfalso; omega) | (exact htb))
                    · (first | (exfalso; omega) | (exact Or.inl rfl))
            · refine s_aload_n X dX6_binaryToken_94 rfl 0 rfl ?_
              refine s_callIV X lk_X6_200 [0, 1] [2, 3, 4] (wr := [aB G yt 400 t, aI G yi 60 qi, aF G yd 60 qd]) rfl rfl (by decide) (by decide) (by decide) (c_X6_fixed (kl K) G o a po xt xi xd yt yi yd th n e dn at9 dp kd wh pl base sg row ror np nw nb ns nrw nir inf9 re nr B (by assumption) (by assumption) (by omega) (by omega) (by omega)) rfl rfl dX6_binaryToken_95 rfl rfl (Nat.le_of_ble_eq_true rfl) (by decide) (fun z27 w27 h27 => ?_)
              obtain ⟨at227, np227, nr227, rfl, rfl, f27_0, f27_1⟩ := h27
              show SW K G 2 0 0 98 [(0, .ref o), (1, .int (iI c))] [.int (iI (fxA B n e at9))] [aB G yt 400 t, aI G yi 60 qi, aF G yd 60 qd, oMo o th n a e dn at227 dp po kd wh re pl base sg xt row ror xi xd np227 nw nr227 nb ns yt nrw nir yi yd inf9, aB G a 3000 B]
              have g0 := f27_0
              have g1 := f27_1
              refine s_perm (ws' := [oMo o th n a e dn at227 dp po kd wh re pl base sg xt row ror xi xd np227 nw nr227 nb ns yt nrw nir yi yd inf9, aB G a 3000 B, aB G yt 400 t, aI G yi 60 qi, aF G yd 60 qd]) [3, 4, 0, 1, 2] (by decide) rfl rfl ?_
              refine s_iret X Y dX6_binaryToken_98 (rfl) ?_
              refine ⟨at227, np227, nw, ns, nrw, nir, inf9, nr227, t, qi, qd, ?_, rfl, ?_, ?_, ?_, ?_⟩
              · (first | (exfalso; omega) | (have e9 : c = 137 := (by omega); subst e9; have hb := bi_137 B n e at9; exact hb.1.symm))
              · (first | (exfalso; omega) | (have e9 : c = 137 := (by omega); subst e9; have hb := bi_137 B n e at9; intro h; rw [hb.2.1, hb.2.2.1]; exact g0 h))
              · (first | (exfalso; omega) | (have e9 : c = 137 := (by omega); subst e9; have hb := bi_137 B n e at9; intro h; exact BiG_2 (fxA_2 h) hb.2.2.2.1 ((g1 (fxA_2 h)).trans hb.2.2.2.2.1.symm) hb.2.2.2.2.2.1 hb.2.2.2.2.2.2))
              · (first | (exfalso; omega) | (exact htb))
              · (first | (exfalso; omega) | (exact Or.inl rfl))
          · refine s_aload_n X dX6_binaryToken_77 rfl 0 rfl ?_
            refine s_iconst X dX6_binaryToken_78 ?_
            refine s_iconst X dX6_binaryToken_79 ?_
            refine s_callIV X lk_X6_193 [0, 1] [2, 3, 4] (wr := [aB G yt 400 t, aI G yi 60 qi, aF G yd 60 qd]) rfl rfl (by decide) (by decide) (by decide) (c_X6_number (kl K) G o a po xt xi xd yt yi yd th n e dn at9 dp kd wh pl base sg row ror np nw nb ns nrw nir inf9 re nr B 1 0 (by assumption) (by assumption) (by omega) (by omega) (by omega) (by omega) (by omega)) rfl rfl dX6_binaryToken_80 rfl rfl (Nat.le_of_ble_eq_true rfl) (by decide) (fun z28 w28 h28 => ?_)
            obtain ⟨at228, nw228, rfl, rfl, f28_0, f28_1⟩ := h28
            show SW K G 2 0 0 83 [(0, .ref o), (1, .int (iI c))] [.int (iI (nuA n e (at9 + 1 + 1) (-99)))] [aB G yt 400 t, aI G yi 60 qi, aF G yd 60 qd, oMo o th n a e dn at228 dp po kd wh re pl base sg xt row ror xi xd np nw228 nr nb ns yt nrw nir yi yd inf9, aB G a 3000 B]
            have g0 := f28_0
            have g1 := f28_1
            have hv9 := nuA_v n e (at9 + 1 + 1)
            refine s_callIS X lk_X6_197 [] [0, 1, 2, 3, 4] (wr := [aB G yt 400 t, aI G yi 60 qi, aF G yd 60 qd, oMo o th n a e dn at228 dp po kd wh re pl base sg xt row ror xi xd np nw228 nr nb ns yt nrw nir yi yd inf9, aB G a 3000 B]) rfl rfl (by decide) (by decide) (by decide) (c_X6_asNumber (kl K) G (nuA n e (at9 + 1 + 1) (-99)) (by omega)) dX6_binaryToken_83 rfl rfl (Nat.le_of_ble_eq_true rfl) (by decide) (fun z29 w29 h29 => ?_)
            obtain ⟨rfl, rfl⟩ := h29
            show SW K G 2 0 0 86 [(0, .ref o), (1, .int (iI c))] [.int (iI (if (nuA n e (at9 + 1 + 1) (-99)) = -99 then 1 else (nuA n e (at9 + 1 + 1) (-99))))] [aB G yt 400 t, aI G yi 60 qi, aF G yd 60 qd, oMo o th n a e dn at228 dp po kd wh re pl base sg xt row ror xi xd np nw228 nr nb ns yt nrw nir yi yd inf9, aB G a 3000 B]
            refine s_perm (ws' := [oMo o th n a e dn at228 dp po kd wh re pl base sg xt row ror xi xd np nw228 nr nb ns yt nrw nir yi yd inf9, aB G a 3000 B, aB G yt 400 t, aI G yi 60 qi, aF G yd 60 qd]) [3, 4, 0, 1, 2] (by decide) rfl rfl ?_
            refine s_iret X Y dX6_binaryToken_86 (rfl) ?_
            refine ⟨at228, np, nw228, ns, nrw, nir, inf9, nr, t, qi, qd, ?_, rfl, ?_, ?_, ?_, ?_⟩
            · (first | (exfalso; omega) | (have e9 : c = 136 := (by omega); subst e9; have hb := bi_136 B n e at9; exact (nuA_99 _ _ _).trans hb.1.symm))
            · (first | (exfalso; omega) | (have e9 : c = 136 := (by omega); subst e9; have hb := bi_136 B n e at9; intro h; rw [nuA_99] at h; rw [hb.2.1, hb.2.2.1]; exact ⟨g0 (nuA_90 h), hnp⟩))
            · (first | (exfalso; omega) | (have e9 : c = 136 := (by omega); subst e9; have hb := bi_136 B n e at9; intro h; rw [nuA_99] at h ⊢; exact BiG_1 (Or.inl (nuA_kd h).1) ((g1 (nuA_91 h)).trans hb.2.2.2.1.symm) hb.2.2.2.2.1 hb.2.2.2.2.2.1 hb.2.2.2.2.2.2))
            · (first | (exfalso; omega) | (exact htb))
            · (first | (exfalso; omega) | (exact Or.inl rfl))
        · refine s_aload_n X dX6_binaryToken_49 rfl 0 rfl ?_
          refine s_iconst X dX6_binaryToken_50 ?_
          refine s_iload_n X dX6_binaryToken_51 rfl 1 rfl ?_
          refine s_sipush 135 X dX6_binaryToken_52 (by decide) ?_
          refine s_icmp_ne X 62 dX6_binaryToken_55 (by decide) (by omega) (fun c55 => ?_) (fun c55 => ?_)
          · refine s_iconst X dX6_binaryToken_62 ?_
            refine s_callIV X lk_X6_193 [0, 1] [2, 3, 4] (wr := [aB G yt 400 t, aI G yi 60 qi, aF G yd 60 qd]) rfl rfl (by decide) (by decide) (by decide) (c_X6_number (kl K) G o a po xt xi xd yt yi yd th n e dn at9 dp kd wh pl base sg row ror np nw nb ns nrw nir inf9 re nr B 2 0 (by assumption) (by assumption) (by omega) (by omega) (by omega) (by omega) (by omega)) rfl rfl dX6_binaryToken_63 rfl rfl (Nat.le_of_ble_eq_true rfl) (by decide) (fun z30 w30 h30 => ?_)
            obtain ⟨at230, nw230, rfl, rfl, f30_0, f30_1⟩ := h30
            show SW K G 2 0 0 66 [(0, .ref o), (1, .int (iI c))] [.int (iI (nuA n e (at9 + 1 + 2) (-99)))] [aB G yt 400 t, aI G yi 60 qi, aF G yd 60 qd, oMo o th n a e dn at230 dp po kd wh re pl base sg xt row ror xi xd np nw230 nr nb ns yt nrw nir yi yd inf9, aB G a 3000 B]
            have g0 := f30_0
            have g1 := f30_1
            have hv9 := nuA_v n e (at9 + 1 + 2)
            refine s_callIS X lk_X6_197 [] [0, 1, 2, 3, 4] (wr := [aB G yt 400 t, aI G yi 60 qi, aF G yd 60 qd, oMo o th n a e dn at230 dp po kd wh re pl base sg xt row ror xi xd np nw230 nr nb ns yt nrw nir yi yd inf9, aB G a 3000 B]) rfl rfl (by decide) (by decide) (by decide) (c_X6_asNumber (kl K) G (nuA n e (at9 + 1 + 2) (-99)) (by omega)) dX6_binaryToken_66 rfl rfl (Nat.le_of_ble_eq_true rfl) (by decide) (fun z31 w31 h31 => ?_)
            obtain ⟨rfl, rfl⟩ := h31
            show SW K G 2 0 0 69 [(0, .ref o), (1, .int (iI c))] [.int (iI (if (nuA n e (at9 + 1 + 2) (-99)) = -99 then 1 else (nuA n e (at9 + 1 + 2) (-99))))] [aB G yt 400 t, aI G yi 60 qi, aF G yd 60 qd, oMo o th n a e dn at230 dp po kd wh re pl base sg xt row ror xi xd np nw230 nr nb ns yt nrw nir yi yd inf9, aB G a 3000 B]
            refine s_perm (ws' := [oMo o th n a e dn at230 dp po kd wh re pl base sg xt row ror xi xd np nw230 nr nb ns yt nrw nir yi yd inf9, aB G a 3000 B, aB G yt 400 t, aI G yi 60 qi, aF G yd 60 qd]) [3, 4, 0, 1, 2] (by decide) rfl rfl ?_
            refine s_iret X Y dX6_binaryToken_69 (rfl) ?_
            refine ⟨at230, np, nw230, ns, nrw, nir, inf9, nr, t, qi, qd, ?_, rfl, ?_, ?_, ?_, ?_⟩
            · (first | (exfalso; omega) | (have e9 : c = 135 := (by omega); subst e9; have hb := bi_135 B n e at9; exact (nuA_99 _ _ _).trans hb.1.symm))
            · (first | (exfalso; omega) | (have e9 : c = 135 := (by omega); subst e9; have hb := bi_135 B n e at9; intro h; rw [nuA_99] at h; rw [hb.2.1, hb.2.2.1]; exact ⟨g0 (nuA_90 h), hnp⟩))
            · (first | (exfalso; omega) | (have e9 : c = 135 := (by omega); subst e9; have hb := bi_135 B n e at9; intro h; rw [nuA_99] at h ⊢; exact BiG_1 (Or.inl (nuA_kd h).1) ((g1 (nuA_91 h)).trans hb.2.2.2.1.symm) hb.2.2.2.2.1 hb.2.2.2.2.2.1 hb.2.2.2.2.2.2))
            · (first | (exfalso; omega) | (exact htb))
            · (first | (exfalso; omega) | (exact Or.inl rfl))
          · refine s_iconst X dX6_binaryToken_58 ?_
            refine s_goto X 63 dX6_binaryToken_59 (by decide) ?_
            refine s_callIV X lk_X6_193 [0, 1] [2, 3, 4] (wr := [aB G yt 400 t, aI G yi 60 qi, aF G yd 60 qd]) rfl rfl (by decide) (by decide) (by decide) (c_X6_number (kl K) G o a po xt xi xd yt yi yd th n e dn at9 dp kd wh pl base sg row ror np nw nb ns nrw nir inf9 re nr B 2 1 (by assumption) (by assumption) (by omega) (by omega) (by omega) (by omega) (by omega)) rfl rfl dX6_binaryToken_63 rfl rfl (Nat.le_of_ble_eq_true rfl) (by decide) (fun z32 w32 h32 => ?_)
            obtain ⟨at232, nw232, rfl, rfl, f32_0, f32_1⟩ := h32
            show SW K G 2 0 0 66 [(0, .ref o), (1, .int (iI c))] [.int (iI (nuA n e (at9 + 1 + 2) (-99)))] [aB G yt 400 t, aI G yi 60 qi, aF G yd 60 qd, oMo o th n a e dn at232 dp po kd wh re pl base sg xt row ror xi xd np nw232 nr nb ns yt nrw nir yi yd inf9, aB G a 3000 B]
            have g0 := f32_0
            have g1 := f32_1
            have hv9 := nuA_v n e (at9 + 1 + 2)
            refine s_callIS X lk_X6_197 [] [0, 1, 2, 3, 4] (wr := [aB G yt 400 t, aI G yi 60 qi, aF G yd 60 qd, oMo o th n a e dn at232 dp po kd wh re pl base sg xt row ror xi xd np nw232 nr nb ns yt nrw nir yi yd inf9, aB G a 3000 B]) rfl rfl (by decide) (by decide) (by decide) (c_X6_asNumber (kl K) G (nuA n e (at9 + 1 + 2) (-99)) (by omega)) dX6_binaryToken_66 rfl rfl (Nat.le_of_ble_eq_true rfl) (by decide) (fun z33 w33 h33 => ?_)
            obtain ⟨rfl, rfl⟩ := h33
            show SW K G 2 0 0 69 [(0, .ref o), (1, .int (iI c))] [.int (iI (if (nuA n e (at9 + 1 + 2) (-99)) = -99 then 1 else (nuA n e (at9 + 1 + 2) (-99))))] [aB G yt 400 t, aI G yi 60 qi, aF G yd 60 qd, oMo o th n a e dn at232 dp po kd wh re pl base sg xt row ror xi xd np nw232 nr nb ns yt nrw nir yi yd inf9, aB G a 3000 B]
            refine s_perm (ws' := [oMo o th n a e dn at232 dp po kd wh re pl base sg xt row ror xi xd np nw232 nr nb ns yt nrw nir yi yd inf9, aB G a 3000 B, aB G yt 400 t, aI G yi 60 qi, aF G yd 60 qd]) [3, 4, 0, 1, 2] (by decide) rfl rfl ?_
            refine s_iret X Y dX6_binaryToken_69 (rfl) ?_
            refine ⟨at232, np, nw232, ns, nrw, nir, inf9, nr, t, qi, qd, ?_, rfl, ?_, ?_, ?_, ?_⟩
            · (first | (exfalso; omega) | (have e9 : c = 135 := (by omega); subst e9; have hb := bi_135 B n e at9; exact (nuA_99 _ _ _).trans hb.1.symm))
            · (first | (exfalso; omega) | (have e9 : c = 135 := (by omega); subst e9; have hb := bi_135 B n e at9; intro h; rw [nuA_99] at h; rw [hb.2.1, hb.2.2.1]; exact ⟨g0 (nuA_90 h), hnp⟩))
            · (first | (exfalso; omega) | (have e9 : c = 135 := (by omega); subst e9; have hb := bi_135 B n e at9; intro h; rw [nuA_99] at h ⊢; exact BiG_1 (Or.inl (nuA_kd h).1) ((g1 (nuA_91 h)).trans hb.2.2.2.1.symm) hb.2.2.2.2.1 hb.2.2.2.2.2.1 hb.2.2.2.2.2.2))
            · (first | (exfalso; omega) | (exact htb))
            · (first | (exfalso; omega) | (exact Or.inl rfl))
    · refine s_aload_n X dX6_binaryToken_14 rfl 0 rfl ?_
      refine s_iconst X dX6_binaryToken_15 ?_
      refine s_iload_n X dX6_binaryToken_16 rfl 1 rfl ?_
      refine s_sipush 133 X dX6_binaryToken_17 (by decide) ?_
      refine s_icmp_ne X 27 dX6_binaryToken_20 (by decide) (by omega) (fun c20 => ?_) (fun c20 => ?_)
      · refine s_iconst X dX6_binaryToken_27 ?_
        refine s_callIV X lk_X6_193 [0, 1] [2, 3, 4] (wr := [aB G yt 400 t, aI G yi 60 qi, aF G yd 60 qd]) rfl rfl (by decide) (by decide) (by decide) (c_X6_number (kl K) G o a po xt xi xd yt yi yd th n e dn at9 dp kd wh pl base sg row ror np nw nb ns nrw nir inf9 re nr B 4 0 (by assumption) (by assumption) (by omega) (by omega) (by omega) (by omega) (by omega)) rfl rfl dX6_binaryToken_28 rfl rfl (Nat.le_of_ble_eq_true rfl) (by decide) (fun z34 w34 h34 => ?_)
        obtain ⟨at234, nw234, rfl, rfl, f34_0, f34_1⟩ := h34
        show SW K G 2 0 0 31 [(0, .ref o), (1, .int (iI c))] [.int (iI (nuA n e (at9 + 1 + 4) (-99)))] [aB G yt 400 t, aI G yi 60 qi, aF G yd 60 qd, oMo o th n a e dn at234 dp po kd wh re pl base sg xt row ror xi xd np nw234 nr nb ns yt nrw nir yi yd inf9, aB G a 3000 B]
        have g0 := f34_0
        have g1 := f34_1
        have hv9 := nuA_v n e (at9 + 1 + 4)
        refine s_callIS X lk_X6_197 [] [0, 1, 2, 3, 4] (wr := [aB G yt 400 t, aI G yi 60 qi, aF G yd 60 qd, oMo o th n a e dn at234 dp po kd wh re pl base sg xt row ror xi xd np nw234 nr nb ns yt nrw nir yi yd inf9, aB G a 3000 B]) rfl rfl (by decide) (by decide) (by decide) (c_X6_asNumber (kl K) G (nuA n e (at9 + 1 + 4) (-99)) (by omega)) dX6_binaryToken_31 rfl rfl (Nat.le_of_ble_eq_true rfl) (by decide) (fun z35 w35 h35 => ?_)
        obtain ⟨rfl, rfl⟩ := h35
        show SW K G 2 0 0 34 [(0, .ref o), (1, .int (iI c))] [.int (iI (if (nuA n e (at9 + 1 + 4) (-99)) = -99 then 1 else (nuA n e (at9 + 1 + 4) (-99))))] [aB G yt 400 t, aI G yi 60 qi, aF G yd 60 qd, oMo o th n a e dn at234 dp po kd wh re pl base sg xt row ror xi xd np nw234 nr nb ns yt nrw nir yi yd inf9, aB G a 3000 B]
        refine s_perm (ws' := [oMo o th n a e dn at234 dp po kd wh re pl base sg xt row ror xi xd np nw234 nr nb ns yt nrw nir yi yd inf9, aB G a 3000 B, aB G yt 400 t, aI G yi 60 qi, aF G yd 60 qd]) [3, 4, 0, 1, 2] (by decide) rfl rfl ?_
        refine s_iret X Y dX6_binaryToken_34 (rfl) ?_
        refine ⟨at234, np, nw234, ns, nrw, nir, inf9, nr, t, qi, qd, ?_, rfl, ?_, ?_, ?_, ?_⟩
        · (first | (exfalso; omega) | (have e9 : c = 133 := (by omega); subst e9; have hb := bi_133 B n e at9; exact (nuA_99 _ _ _).trans hb.1.symm))
        · (first | (exfalso; omega) | (have e9 : c = 133 := (by omega); subst e9; have hb := bi_133 B n e at9; intro h; rw [nuA_99] at h; rw [hb.2.1, hb.2.2.1]; exact ⟨g0 (nuA_90 h), hnp⟩))
        · (first | (exfalso; omega) | (have e9 : c = 133 := (by omega); subst e9; have hb := bi_133 B n e at9; intro h; rw [nuA_99] at h ⊢; exact BiG_1 (Or.inl (nuA_kd h).1) ((g1 (nuA_91 h)).trans hb.2.2.2.1.symm) hb.2.2.2.2.1 hb.2.2.2.2.2.1 hb.2.2.2.2.2.2))
        · (first | (exfalso; omega) | (exact htb))
        · (first | (exfalso; omega) | (exact Or.inl rfl))
      · refine s_iconst X dX6_binaryToken_23 ?_
        refine s_goto X 28 dX6_binaryToken_24 (by decide) ?_
        refine s_callIV X lk_X6_193 [0, 1] [2, 3, 4] (wr := [aB G yt 400 t, aI G yi 60 qi, aF G yd 60 qd]) rfl rfl (by decide) (by decide) (by decide) (c_X6_number (kl K) G o a po xt xi xd yt yi yd th n e dn at9 dp kd wh pl base sg row ror np nw nb ns nrw nir inf9 re nr B 4 1 (by assumption) (by assumption) (by omega) (by omega) (by omega) (by omega) (by omega)) rfl rfl dX6_binaryToken_28 rfl rfl (Nat.le_of_ble_eq_true rfl) (by decide) (fun z36 w36 h36 => ?_)
        obtain ⟨at236, nw236, rfl, rfl, f36_0, f36_1⟩ := h36
        show SW K G 2 0 0 31 [(0, .ref o), (1, .int (iI c))] [.int (iI (nuA n e (at9 + 1 + 4) (-99)))] [aB G yt 400 t, aI G yi 60 qi, aF G yd 60 qd, oMo o th n a e dn at236 dp po kd wh re pl base sg xt row ror xi xd np nw236 nr nb ns yt nrw nir yi yd inf9, aB G a 3000 B]
        have g0 := f36_0
        have g1 := f36_1
        have hv9 := nuA_v n e (at9 + 1 + 4)
        refine s_callIS X lk_X6_197 [] [0, 1, 2, 3, 4] (wr := [aB G yt 400 t, aI G yi 60 qi, aF G yd 60 qd, oMo o th n a e dn at236 dp po kd wh re pl base sg xt row ror xi xd np nw236 nr nb ns yt nrw nir yi yd inf9, aB G a 3000 B]) rfl rfl (by decide) (by decide) (by decide) (c_X6_asNumber (kl K) G (nuA n e (at9 + 1 + 4) (-99)) (by omega)) dX6_binaryToken_31 rfl rfl (Nat.le_of_ble_eq_true rfl) (by decide) (fun z37 w37 h37 => ?_)
        obtain ⟨rfl, rfl⟩ := h37
        show SW K G 2 0 0 34 [(0, .ref o), (1, .int (iI c))] [.int (iI (if (nuA n e (at9 + 1 + 4) (-99)) = -99 then 1 else (nuA n e (at9 + 1 + 4) (-99))))] [aB G yt 400 t, aI G yi 60 qi, aF G yd 60 qd, oMo o th n a e dn at236 dp po kd wh re pl base sg xt row ror xi xd np nw236 nr nb ns yt nrw nir yi yd inf9, aB G a 3000 B]
        refine s_perm (ws' := [oMo o th n a e dn at236 dp po kd wh re pl base sg xt row ror xi xd np nw236 nr nb ns yt nrw nir yi yd inf9, aB G a 3000 B, aB G yt 400 t, aI G yi 60 qi, aF G yd 60 qd]) [3, 4, 0, 1, 2] (by decide) rfl rfl ?_
        refine s_iret X Y dX6_binaryToken_34 (rfl) ?_
        refine ⟨at236, np, nw236, ns, nrw, nir, inf9, nr, t, qi, qd, ?_, rfl, ?_, ?_, ?_, ?_⟩
        · (first | (exfalso; omega) | (have e9 : c = 133 := (by omega); subst e9; have hb := bi_133 B n e at9; exact (nuA_99 _ _ _).trans hb.1.symm))
        · (first | (exfalso; omega) | (have e9 : c = 133 := (by omega); subst e9; have hb := bi_133 B n e at9; intro h; rw [nuA_99] at h; rw [hb.2.1, hb.2.2.1]; exact ⟨g0 (nuA_90 h), hnp⟩))
        · (first | (exfalso; omega) | (have e9 : c = 133 := (by omega); subst e9; have hb := bi_133 B n e at9; intro h; rw [nuA_99] at h ⊢; exact BiG_1 (Or.inl (nuA_kd h).1) ((g1 (nuA_91 h)).trans hb.2.2.2.1.symm) hb.2.2.2.2.1 hb.2.2.2.2.2.1 hb.2.2.2.2.2.2))
        · (first | (exfalso; omega) | (exact htb))
        · (first | (exfalso; omega) | (exact Or.inl rfl))
set_option maxRecDepth 100000 in
set_option maxHeartbeats 4000000 in
theorem c_X6_bracket (l : Launch) (G : GX) (o : Nat) (a : Nat) (po : Nat) (xt : Nat) (xi : Nat) (xd : Nat) (yt : Nat) (yi : Nat) (yd : Nat) (th : Int) (n : Int) (e : Int) (dn : Int) (at9 : Int) (dp : Int) (kd : Int) (wh : Int) (pl : Int) (base : Int) (sg : Int) (row : Int) (ror : Int) (np : Int) (nw : Int) (nb : Int) (ns : Int) (nrw : Int) (nir : Int) (inf9 : Int) (re : UInt64) (nr : UInt64) (B : Nat → Nat) (hn : 0 ≤ n ∧ n ≤ 3000) (hBb : ∀ j, B j < 256) (he : e = 0 ∨ e = 1) (hap : 0 ≤ at9 ∧ at9 < n) (hdp : 0 ≤ dp ∧ dp ≤ 20) (hc : bA B n at9 = 91 ∨ bA B n at9 = 93 ∨ bA B n at9 = 123 ∨ bA B n at9 = 125 ∨ bA B n at9 = 41 ∨ bA B n at9 = 62) : CtI l G yX6_bracket cX6_bracket 2 (some .int) ({ frames := 1, cells := 0, slots := 0, locals := 21 } : Room) [.ref o, .int (iI (bA B n at9))] [oMo o th n a e dn at9 dp po kd wh re pl base sg xt row ror xi xd np nw nr nb ns yt nrw nir yi yd inf9, aB G a 3000 B] (fun (z9 : Int) (w9 : va_W) => ∃ (at2 : Int), z9 = (rtN B n e at9 dp (bA B n at9)) ∧ w9 = [oMo o th n a e dn at2 dp po kd wh re pl base sg xt row ror xi xd np nw nr nb ns yt nrw nir yi yd inf9, aB G a 3000 B] ∧ (z9 ≠ 0 → at2 = rtF B n at9 (bA B n at9))) := by
  intro sz
  refine met_of (fun wc sz => va_Qi (qI _) (posW G wc sz) (va_A wc sz)) (by decide) [(0, .ref o), (1, .int (iI (bA B n at9)))] rfl (Nat.le_of_ble_eq_true rfl) (fun K hK9 hnm X Y => ?_)
  subst hK9
  replace Y : RI K G (some .int) 0 0 _ := Y
  refine s_aload_n X dX6_bracket_0 rfl 0 rfl ?_
  refine s_dup X dX6_bracket_1 rfl ?_
  refine s_get X dX6_bracket_2 fl_X6_102 0 rfl rfl ?_
  refine s_iconst X dX6_bracket_5 ?_
  refine s_iadd X dX6_bracket_6 ?_
  refine s_put X dX6_bracket_7 fl_X6_102 tyX6_ok nmX6 0 rfl rfl (rfl) (rfl) (Nat.le_of_ble_eq_true rfl) [oMo o th n a e dn (at9 + 1) dp po kd wh re pl base sg xt row ror xi xd np nw nr nb ns yt nrw nir yi yd inf9, aB G a 3000 B] rfl ?_
  refine s_iload_n X dX6_bracket_10 rfl 1 rfl ?_
  refine s_bipush 91 X dX6_bracket_11 (by decide) ?_
  refine s_icmp_ne X 19 dX6_bracket_13 (by decide) (by omega) (fun c13 => ?_) (fun c13 => ?_)
  · refine s_iload_n X dX6_bracket_19 rfl 1 rfl ?_
    refine s_bipush 93 X dX6_bracket_20 (by decide) ?_
    refine s_icmp_ne X 28 dX6_bracket_22 (by decide) (by omega) (fun c22 => ?_) (fun c22 => ?_)
    · refine s_iload_n X dX6_bracket_28 rfl 1 rfl ?_
      refine s_bipush 123 X dX6_bracket_29 (by decide) ?_
      refine s_icmp_ne X 51 dX6_bracket_31 (by decide) (by omega) (fun c31 => ?_) (fun c31 => ?_)
      · refine s_iload_n X dX6_bracket_51 rfl 1 rfl ?_
        refine s_bipush 125 X dX6_bracket_52 (by decide) ?_
        refine s_icmp_ne X 72 dX6_bracket_54 (by decide) (by omega) (fun c54 => ?_) (fun c54 => ?_)
        · refine s_iload_n X dX6_bracket_72 rfl 1 rfl ?_
          refine s_bipush 41 X dX6_bracket_73 (by decide) ?_
          refine s_icmp_ne X 81 dX6_bracket_75 (by decide) (by omega) (fun c75 => ?_) (fun c75 => ?_)
          · refine s_aload_n X dX6_bracket_81 rfl 0 rfl ?_
            refine s_get X dX6_bracket_82 fl_X6_102 0 rfl rfl ?_
            refine s_aload_n X dX6_bracket_85 rfl 0 rfl ?_
            refine s_get X dX6_bracket_86 fl_X6_40 0 rfl rfl ?_
            refine s_icmp_ne X 101 dX6_bracket_89 (by decide) (by omega) (fun c89 => ?_) (fun c89 => ?_)
            · refine s_aload_n X dX6_bracket_101 rfl 0 rfl ?_
              refine s_aload_n X dX6_bracket_102 rfl 0 rfl ?_
              refine s_get X dX6_bracket_103 fl_X6_102 0 rfl rfl ?_
              refine s_callIV X lk_X6_63 [0, 1] [] (wr := []) rfl rfl (by decide) (by decide) (by decide) (c_X6_byteAt (kl K) G o a po xt xi xd yt yi yd th n e dn (at9 + 1) dp kd wh pl base sg row ror np nw nb ns nrw nir inf9 re nr B (at9 + 1) (by assumption) (by assumption) (by omega)) rfl rfl dX6_bracket_106 rfl rfl (Nat.le_of_ble_eq_true rfl) (by decide) (fun z1 w1 h1 => ?_)
              obtain ⟨rfl, rfl⟩ := h1
              show SW K G 2 0 0 109 [(0, .ref o), (1, .int (iI (bA B n at9)))] [.int (iI (bA B n (at9 + 1)))] [oMo o th n a e dn (at9 + 1) dp po kd wh re pl base sg xt row ror xi xd np nw nr nb ns yt nrw nir yi yd inf9, aB G a 3000 B]
              have q2 := bA_C n (at9 + 1) (by assumption : ∀ j, B j < 256)
              refine s_bipush 62 X dX6_bracket_109 (by decide) ?_
              refine s_icmp_eq X 117 dX6_bracket_111 (by decide) (by omega) (fun c111 => ?_) (fun c111 => ?_)
              · refine s_aload_n X dX6_bracket_117 rfl 0 rfl ?_
                refine s_dup X dX6_bracket_118 rfl ?_
                refine s_get X dX6_bracket_119 fl_X6_102 0 rfl rfl ?_
                refine s_iconst X dX6_bracket_122 ?_
                refine s_iadd X dX6_bracket_123 ?_
                refine s_put X dX6_bracket_124 fl_X6_102 tyX6_ok nmX6 0 rfl rfl (rfl) (rfl) (Nat.le_of_ble_eq_true rfl) [oMo o th n a e dn ((at9 + 1) + 1) dp po kd wh re pl base sg xt row ror xi xd np nw nr nb ns yt nrw nir yi yd inf9, aB G a 3000 B] rfl ?_
                refine s_bipush 12 X dX6_bracket_127 (by decide) ?_
                refine s_iret X Y dX6_bracket_129 (rfl) ?_
                refine ⟨((at9 + 1) + 1), ?_, rfl, ?_⟩
                · (first | (exfalso; omega) | (have e9 : bA B n at9 = 62 := (by omega); have hr := rt_62 B n e at9 dp base; rw [e9]; rw [hr.1]; unfold grA; rw [if_neg (by omega), if_pos (by assumption)]))
                · (first | (exfalso; omega) | (have e9 : bA B n at9 = 62 := (by omega); have hr := rt_62 B n e at9 dp base; rw [e9]; intro _; rw [hr.2.1]; unfold grF; rw [if_pos (by assumption)]; omega))
              · refine s_bipush (-4) X dX6_bracket_114 (by decide) ?_
                refine s_iret X Y dX6_bracket_116 (rfl) ?_
                refine ⟨(at9 + 1), ?_, rfl, ?_⟩
                · (first | (exfalso; omega) | (have e9 : bA B n at9 = 62 := (by omega); have hr := rt_62 B n e at9 dp base; rw [e9]; rw [hr.1]; exact (gr_4 (by omega) (by assumption)).1.symm))
                · (first | (exfalso; omega) | (have e9 : bA B n at9 = 62 := (by omega); have hr := rt_62 B n e at9 dp base; rw [e9]; intro _; rw [hr.2.1]; exact (gr_4 (n := n) (e := e) (by omega) (by assumption)).2.symm))
            · refine s_aload_n X dX6_bracket_92 rfl 0 rfl ?_
              refine s_get X dX6_bracket_93 fl_X6_53 0 rfl rfl ?_
              refine s_if_ne X 101 dX6_bracket_96 (by decide) (by omega) (fun c96 => ?_) (fun c96 => ?_)
              · refine s_aload_n X dX6_bracket_101 rfl 0 rfl ?_
                refine s_aload_n X dX6_bracket_102 rfl 0 rfl ?_
                refine s_get X dX6_bracket_103 fl_X6_102 0 rfl rfl ?_
                refine s_callIV X lk_X6_63 [0, 1] [] (wr := []) rfl rfl (by decide) (by decide) (by decide) (c_X6_byteAt (kl K) G o a po xt xi xd yt yi yd th n e dn (at9 + 1) dp kd wh pl base sg row ror np nw nb ns nrw nir inf9 re nr B (at9 + 1) (by assumption) (by assumption) (by omega)) rfl rfl dX6_bracket_106 rfl rfl (Nat.le_of_ble_eq_true rfl) (by decide) (fun z3 w3 h3 => ?_)
                obtain ⟨rfl, rfl⟩ := h3
                show SW K G 2 0 0 109 [(0, .ref o), (1, .int (iI (bA B n at9)))] [.int (iI (bA B n (at9 + 1)))] [oMo o th n a e dn (at9 + 1) dp po kd wh re pl base sg xt row ror xi xd np nw nr nb ns yt nrw nir yi yd inf9, aB G a 3000 B]
                have q4 := bA_C n (at9 + 1) (by assumption : ∀ j, B j < 256)
                refine s_bipush 62 X dX6_bracket_109 (by decide) ?_
                refine s_icmp_eq X 117 dX6_bracket_111 (by decide) (by omega) (fun c111 => ?_) (fun c111 => ?_)
                · refine s_aload_n X dX6_bracket_117 rfl 0 rfl ?_
                  refine s_dup X dX6_bracket_118 rfl ?_
                  refine s_get X dX6_bracket_119 fl_X6_102 0 rfl rfl ?_
                  refine s_iconst X dX6_bracket_122 ?_
                  refine s_iadd X dX6_bracket_123 ?_
                  refine s_put X dX6_bracket_124 fl_X6_102 tyX6_ok nmX6 0 rfl rfl (rfl) (rfl) (Nat.le_of_ble_eq_true rfl) [oMo o th n a e dn ((at9 + 1) + 1) dp po kd wh re pl base sg xt row ror xi xd np nw nr nb ns yt nrw nir yi yd inf9, aB G a 3000 B] rfl ?_
                  refine s_bipush 12 X dX6_bracket_127 (by decide) ?_
                  refine s_iret X Y dX6_bracket_129 (rfl) ?_
                  refine ⟨((at9 + 1) + 1), ?_, rfl, ?_⟩
                  · (first | (exfalso; omega) | (have e9 : bA B n at9 = 62 := (by omega); have hr := rt_62 B n e at9 dp base; rw [e9]; rw [hr.1]; unfold grA; rw [if_neg (by omega), if_pos (by assumption)]))
                  · (first | (exfalso; omega) | (have e9 : bA B n at9 = 62 := (by omega); have hr := rt_62 B n e at9 dp base; rw [e9]; intro _; rw [hr.2.1]; unfold grF; rw [if_pos (by assumption)]; omega))
                · refine s_bipush (-4) X dX6_bracket_114 (by decide) ?_
                  refine s_iret X Y dX6_bracket_116 (rfl) ?_
                  refine ⟨(at9 + 1), ?_, rfl, ?_⟩
                  · (first | (exfalso; omega) | (have e9 : bA B n at9 = 62 := (by omega); have hr := rt_62 B n e at9 dp base; rw [e9]; rw [hr.1]; exact (gr_4 (by omega) (by assumption)).1.symm))
                  · (first | (exfalso; omega) | (have e9 : bA B n at9 = 62 := (by omega); have hr := rt_62 B n e at9 dp base; rw [e9]; intro _; rw [hr.2.1]; exact (gr_4 (n := n) (e := e) (by omega) (by assumption)).2.symm))
              · refine s_iconst X dX6_bracket_99 ?_
                refine s_iret X Y dX6_bracket_100 (rfl) ?_
                refine ⟨(at9 + 1), ?_, rfl, ?_⟩
                · (first | (exfalso; omega) | (have e9 : bA B n at9 = 62 := (by omega); have hr := rt_62 B n e at9 dp base; rw [e9]; rw [hr.1]; unfold grA; rw [if_pos (bA_out (by omega)), if_pos (by omega)]))
                · (first | (exfalso; omega) | (intro h; exact absurd rfl h))
          · refine s_bipush (-4) X dX6_bracket_78 (by decide) ?_
            refine s_iret X Y dX6_bracket_80 (rfl) ?_
            refine ⟨(at9 + 1), ?_, rfl, ?_⟩
            · (first | (exfalso; omega) | (have e9 : bA B n at9 = 41 := (by omega); have hr := rt_41 B n e at9 dp base; rw [e9]; rw [hr.1]))
            · (first | (exfalso; omega) | (have e9 : bA B n at9 = 41 := (by omega); have hr := rt_41 B n e at9 dp base; rw [e9]; intro _; exact hr.2.1.symm))
        · refine s_aload_n X dX6_bracket_57 rfl 0 rfl ?_
          refine s_get X dX6_bracket_58 fl_X6_212 0 rfl rfl ?_
          refine s_if_ne X 69 dX6_bracket_61 (by decide) (by omega) (fun c61 => ?_) (fun c61 => ?_)
          · refine s_bipush 10 X dX6_bracket_69 (by decide) ?_
            refine s_iret X Y dX6_bracket_71 (rfl) ?_
            refine ⟨(at9 + 1), ?_, rfl, ?_⟩
            · (first | (exfalso; omega) | (have e9 : bA B n at9 = 125 := (by omega); have hr := rt_125 B n e at9 dp base; rw [e9]; rw [hr.1]; exact (if_neg (by omega)).symm))
            · (first | (exfalso; omega) | (have e9 : bA B n at9 = 125 := (by omega); have hr := rt_125 B n e at9 dp base; rw [e9]; intro _; exact hr.2.1.symm))
          · refine s_bipush (-4) X dX6_bracket_64 (by decide) ?_
            refine s_goto X 71 dX6_bracket_66 (by decide) ?_
            refine s_iret X Y dX6_bracket_71 (rfl) ?_
            refine ⟨(at9 + 1), ?_, rfl, ?_⟩
            · (first | (exfalso; omega) | (have e9 : bA B n at9 = 125 := (by omega); have hr := rt_125 B n e at9 dp base; rw [e9]; rw [hr.1]; exact (if_pos (by omega)).symm))
            · (first | (exfalso; omega) | (have e9 : bA B n at9 = 125 := (by omega); have hr := rt_125 B n e at9 dp base; rw [e9]; intro _; exact hr.2.1.symm))
      · refine s_aload_n X dX6_bracket_34 rfl 0 rfl ?_
        refine s_get X dX6_bracket_35 fl_X6_212 0 rfl rfl ?_
        refine s_bipush 20 X dX6_bracket_38 (by decide) ?_
        refine s_icmp_ne X 48 dX6_bracket_40 (by decide) (by omega) (fun c40 => ?_) (fun c40 => ?_)
        · refine s_bipush 9 X dX6_bracket_48 (by decide) ?_
          refine s_iret X Y dX6_bracket_50 (rfl) ?_
          refine ⟨(at9 + 1), ?_, rfl, ?_⟩
          · (first | (exfalso; omega) | (have e9 : bA B n at9 = 123 := (by omega); have hr := rt_123 B n e at9 dp base; rw [e9]; rw [hr.1]; exact (if_neg (by omega)).symm))
          · (first | (exfalso; omega) | (have e9 : bA B n at9 = 123 := (by omega); have hr := rt_123 B n e at9 dp base; rw [e9]; intro _; exact hr.2.1.symm))
        · refine s_bipush (-2) X dX6_bracket_43 (by decide) ?_
          refine s_goto X 50 dX6_bracket_45 (by decide) ?_
          refine s_iret X Y dX6_bracket_50 (rfl) ?_
          refine ⟨(at9 + 1), ?_, rfl, ?_⟩
          · (first | (exfalso; omega) | (have e9 : bA B n at9 = 123 := (by omega); have hr := rt_123 B n e at9 dp base; rw [e9]; rw [hr.1]; exact (if_pos (by omega)).symm))
          · (first | (exfalso; omega) | (have e9 : bA B n at9 = 123 := (by omega); have hr := rt_123 B n e at9 dp base; rw [e9]; intro _; exact hr.2.1.symm))
    · refine s_bipush 8 X dX6_bracket_25 (by decide) ?_
      refine s_iret X Y dX6_bracket_27 (rfl) ?_
      refine ⟨(at9 + 1), ?_, rfl, ?_⟩
      · (first | (exfalso; omega) | (have e9 : bA B n at9 = 93 := (by omega); have hr := rt_93 B n e at9 dp base; rw [e9]; rw [hr.1]))
      · (first | (exfalso; omega) | (have e9 : bA B n at9 = 93 := (by omega); have hr := rt_93 B n e at9 dp base; rw [e9]; intro _; exact hr.2.1.symm))
  · refine s_bipush 7 X dX6_bracket_16 (by decide) ?_
    refine s_iret X Y dX6_bracket_18 (rfl) ?_
    refine ⟨(at9 + 1), ?_, rfl, ?_⟩
    · (first | (exfalso; omega) | (have e9 : bA B n at9 = 91 := (by omega); have hr := rt_91 B n e at9 dp base; rw [e9]; rw [hr.1]))
    · (first | (exfalso; omega) | (have e9 : bA B n at9 = 91 := (by omega); have hr := rt_91 B n e at9 dp base; rw [e9]; intro _; exact hr.2.1.symm))
