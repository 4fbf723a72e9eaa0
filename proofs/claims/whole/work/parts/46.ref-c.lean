set_option maxRecDepth 100000 in
set_option maxHeartbeats 4000000 in
theorem c_X6_asReal (l : Launch) (G : GX) (o : Nat) (a : Nat) (po : Nat) (xt : Nat) (xi : Nat) (xd : Nat) (yt : Nat) (yi : Nat) (yd : Nat) (th : Int) (n : Int) (e : Int) (dn : Int) (at9 : Int) (dp : Int) (kd : Int) (wh : Int) (pl : Int) (base : Int) (sg : Int) (row : Int) (ror : Int) (np : Int) (nw : Int) (nb : Int) (ns : Int) (nrw : Int) (nir : Int) (inf9 : Int) (re : UInt64) (nr : UInt64) (B : Nat → Nat) (f : Int) (j : Int) (hn : 0 ≤ n ∧ n ≤ 3000) (hBb : ∀ j, B j < 256) (hfj : 0 ≤ f ∧ f < j ∧ j ≤ n) : CtI l G yX6_asReal cX6_asReal 13 (some .int) ({ frames := 2, cells := 0, slots := 0, locals := 44 } : Room) [.ref o, .int (iI f), .int (iI j)] [oMo o th n a e dn at9 dp po kd wh re pl base sg xt row ror xi xd np nw nr nb ns yt nrw nir yi yd inf9, aB G a 3000 B] (fun (z9 : Int) (w9 : va_W) => ∃ (nr2 : UInt64), z9 = (if rrA (wd B f j) (j - f) = 3 then 0 else rrA (wd B f j) (j - f)) ∧ w9 = [oMo o th n a e dn at9 dp po kd wh re pl base sg xt row ror xi xd np nw nr2 nb ns yt nrw nir yi yd inf9, aB G a 3000 B] ∧ (z9 = 2 → nr2 = rrV (wd B f j) (j - f))) := by
  intro sz
  refine met_of (fun wc sz => va_Qi (qI _) (posW G wc sz) (va_A wc sz)) (by decide) [(0, .ref o), (1, .int (iI f)), (2, .int (iI j))] rfl (Nat.le_of_ble_eq_true rfl) (fun K hK9 hnm X Y => ?_)
  subst hK9
  replace Y : RI K G (some .int) 0 0 _ := Y
  have b9 := bs_R (wd B f j) 0
  have eP : (rrP (wd B f j) (j - f)) = de (wd B f j) (j - f) 10 (bs (wd B f j) 0) := rfl
  have hPR : bs (wd B f j) 0 ≤ (rrP (wd B f j) (j - f)) ∧ (rrP (wd B f j) (j - f)) ≤ (j - f) := by rw [eP]; exact de_R _ _ rfl (by omega)
  have hT := rrT_C B f j
  have hdP : ∀ x, bs (wd B f j) 0 ≤ x → x < (rrP (wd B f j) (j - f)) → x < (j - f) → dg ((wd B f j) x) < 10 := de_lt (w := (wd B f j)) (len := (j - f)) (base := 10) _ _ rfl
  refine s_aload_n X dX6_asReal_0 rfl 0 rfl ?_
  refine s_iload_n X dX6_asReal_1 rfl 1 rfl ?_
  refine s_callIV X lk_X6_63 [0, 1] [] (wr := []) rfl rfl (by decide) (by decide) (by decide) (c_X6_byteAt (kl K) G o a po xt xi xd yt yi yd th n e dn at9 dp kd wh pl base sg row ror np nw nb ns nrw nir inf9 re nr B f (by assumption) (by assumption) (by omega)) rfl rfl dX6_asReal_2 rfl rfl (Nat.le_of_ble_eq_true rfl) (by decide) (fun z1 w1 h1 => ?_)
  obtain ⟨rfl, rfl⟩ := h1
  show SW K G 13 0 0 5 [(0, .ref o), (1, .int (iI f)), (2, .int (iI j))] [.int (iI (bA B n f))] [oMo o th n a e dn at9 dp po kd wh re pl base sg xt row ror xi xd np nw nr nb ns yt nrw nir yi yd inf9, aB G a 3000 B]
  have q2 := bA_C n f (by assumption : ∀ j, B j < 256)
  have e0_1 : bA B n f = wd B f j 0 := by have h9 := wd_bA (B := B) (n := n) (i := f) (j := j) (x := f) (by omega); rwa [Int.sub_self] at h9
  refine s_bipush 45 X dX6_asReal_5 (by decide) ?_
  have j39 : ∀ (ls : Int) (k : Int) (hl : lsIs ls ((wd B f j) 0)) (hk : k - f = bs (wd B f j) 0), SW K G 13 0 0 39 [(3, .int (iI ls)), (4, .int (iI k)), (0, .ref o), (1, .int (iI f)), (2, .int (iI j))] [] [oMo o th n a e dn at9 dp po kd wh re pl base sg xt row ror xi xd np nw nr nb ns yt nrw nir yi yd inf9, aB G a 3000 B] := by
    intro ls k hl hk
    clear q2 e0_1
    refine s_aload_n X dX6_asReal_39 rfl 2 rfl ?_
    refine s_iload X dX6_asReal_40 1 rfl ?_
    refine s_iload_n X dX6_asReal_42 rfl 4 rfl ?_
    refine s_callIV X lk_X6_67 [0, 1] [] (wr := []) rfl rfl (by decide) (by decide) (by decide) (c_X6_digitsFrom (kl K) G o a po xt xi xd yt yi yd th n e dn at9 dp kd wh pl base sg row ror np nw nb ns nrw nir inf9 re nr B f k j (by assumption) (by assumption) (by omega)) rfl rfl dX6_asReal_43 rfl rfl (Nat.le_of_ble_eq_true rfl) (by decide) (fun z3 w3 h3 => ?_)
    obtain ⟨rfl, rfl⟩ := h3
    show SW K G 13 0 0 46 [(3, .int (iI ls)), (4, .int (iI k)), (0, .ref o), (1, .int (iI f)), (2, .int (iI j))] [.int (iI (de (wd B f j) (j - f) 10 (k - f) - (k - f)))] [oMo o th n a e dn at9 dp po kd wh re pl base sg xt row ror xi xd np nw nr nb ns yt nrw nir yi yd inf9, aB G a 3000 B]
    have q4 := de_C (wd B f j) (j - f) 10 (k - f)
    clear q4
    refine s_cast (st' := [.int (iI ((rrP (wd B f j) (j - f)) - bs (wd B f j) 0))]) (by rw [hk]; rfl) rfl rfl ?_
    refine s_istore X dX6_asReal_46 [(5, .int (iI ((rrP (wd B f j) (j - f)) - bs (wd B f j) 0))), (3, .int (iI ls)), (4, .int (iI k)), (0, .ref o), (1, .int (iI f)), (2, .int (iI j))] (by decide) rfl ?_
    refine s_dconst0 X dX6_asReal_48 ?_
    refine s_dstore X dX6_asReal_49 [(6, .double FP.dconst0), (5, .int (iI ((rrP (wd B f j) (j - f)) - bs (wd B f j) 0))), (3, .int (iI ls)), (4, .int (iI k)), (0, .ref o), (1, .int (iI f)), (2, .int (iI j))] (by decide) rfl ?_
    refine s_iconst X dX6_asReal_51 ?_
    refine s_istore X dX6_asReal_52 [(8, .int (iI 0)), (6, .double FP.dconst0), (5, .int (iI ((rrP (wd B f j) (j - f)) - bs (wd B f j) 0))), (3, .int (iI ls)), (4, .int (iI k)), (0, .ref o), (1, .int (iI f)), (2, .int (iI j))] (by decide) rfl ?_
    have lp1 : ∀ (m9 : Nat) (v : UInt64) (x : Int) (h1 : 0 ≤ x ∧ x ≤ (rrP (wd B f j) (j - f)) - bs (wd B f j) 0) (h3 : NN v) (h2 : dr (wd B f j) (bs (wd B f j) 0 + x) (rrT (wd B f j) (j - f)) v = (dr (wd B f j) (bs (wd B f j) 0) (rrT (wd B f j) (j - f)) FP.dconst0)), ((rrP (wd B f j) (j - f)) - bs (wd B f j) 0 - x).toNat < m9 → SW K G 13 0 0 54 [(6, .double v), (8, .int (iI x)), (5, .int (iI ((rrP (wd B f j) (j - f)) - bs (wd B f j) 0))), (3, .int (iI ls)), (4, .int (iI k)), (0, .ref o), (1, .int (iI f)), (2, .int (iI j))] [] [oMo o th n a e dn at9 dp po kd wh re pl base sg xt row ror xi xd np nw nr nb ns yt nrw nir yi yd inf9, aB G a 3000 B] := by
      intro m9
      induction m9 with
      | zero => intro v x h1 h3 h2 hm9; exact absurd hm9 (Nat.not_lt_zero _)
      | succ m9 ih9 =>
        intro v x h1 h3 h2 hm9
        refine s_iload X dX6_asReal_54 1 rfl ?_
        refine s_iload X dX6_asReal_56 2 rfl ?_
        refine s_icmp_ge X 89 dX6_asReal_58 (by decide) (by omega) (fun c58 => ?_) (fun c58 => ?_)
        · refine s_iload X dX6_asReal_89 4 rfl ?_
          refine s_iload X dX6_asReal_91 2 rfl ?_
          refine s_iadd X dX6_asReal_93 ?_
          refine s_cast (st' := [.int (iI (f + (rrP (wd B f j) (j - f))))]) (by rw [show k + ((rrP (wd B f j) (j - f)) - bs (wd B f j) 0) = f + (rrP (wd B f j) (j - f)) by omega]) rfl rfl ?_
          refine s_istore X dX6_asReal_94 [(4, .int (iI (f + (rrP (wd B f j) (j - f))))), (6, .double v), (8, .int (iI x)), (5, .int (iI ((rrP (wd B f j) (j - f)) - bs (wd B f j) 0))), (3, .int (iI ls)), (0, .ref o), (1, .int (iI f)), (2, .int (iI j))] (by decide) rfl ?_
          refine s_iconst X dX6_asReal_96 ?_
          refine s_istore X dX6_asReal_97 [(8, .int (iI 0)), (4, .int (iI (f + (rrP (wd B f j) (j - f))))), (6, .double v), (5, .int (iI ((rrP (wd B f j) (j - f)) - bs (wd B f j) 0))), (3, .int (iI ls)), (0, .ref o), (1, .int (iI f)), (2, .int (iI j))] (by decide) rfl ?_
          have j173 : ∀ (k4 : Int) (x8 : Int) (v2 : UInt64) (h4 : k4 = f + (rrT (wd B f j) (j - f)) ∧ x8 = (rrD (wd B f j) (j - f))) (hvN : NN v2) (hv2 : v2 = (dr (wd B f j) (bs (wd B f j) 0) (rrT (wd B f j) (j - f)) FP.dconst0)), SW K G 13 0 0 173 [(4, .int (iI k4)), (8, .int (iI x8)), (6, .double v2), (5, .int (iI ((rrP (wd B f j) (j - f)) - bs (wd B f j) 0))), (3, .int (iI ls)), (0, .ref o), (1, .int (iI f)), (2, .int (iI j))] [] [oMo o th n a e dn at9 dp po kd wh re pl base sg xt row ror xi xd np nw nr nb ns yt nrw nir yi yd inf9, aB G a 3000 B] := by
            intro k4 x8 v2 h4 hvN hv2
            have hTs : (rrP (wd B f j) (j - f)) ≤ (rrT (wd B f j) (j - f)) ∧ (rrT (wd B f j) (j - f)) ≤ (j - f) ∧ 0 ≤ (rrD (wd B f j) (j - f)) ∧ (rrD (wd B f j) (j - f)) ≤ (rrT (wd B f j) (j - f)) ∧ 0 ≤ bs (wd B f j) 0 := by omega
            clear hT c58 hm9 ih9 h1 h2 h3 b9
            refine s_iload X dX6_asReal_173 3 rfl ?_
            refine s_iload X dX6_asReal_175 1 rfl ?_
            refine s_iadd X dX6_asReal_177 ?_
            refine s_if_ne X 183 dX6_asReal_178 (by decide) (by omega) (fun c178 => ?_) (fun c178 => ?_)
            · refine s_iconst X dX6_asReal_183 ?_
              refine s_istore X dX6_asReal_184 [(9, .int (iI 0)), (4, .int (iI k4)), (8, .int (iI x8)), (6, .double v2), (5, .int (iI ((rrP (wd B f j) (j - f)) - bs (wd B f j) 0))), (3, .int (iI ls)), (0, .ref o), (1, .int (iI f)), (2, .int (iI j))] (by decide) rfl ?_
              have j363 : ∀ (ev : Int) (hC : rrC (wd B f j) (j - f)) (he9 : ev = rrE (wd B f j) (j - f)), SW K G 13 0 0 363 [(9, .int (iI ev)), (8, .int (iI x8)), (6, .double v2), (3, .int (iI ls)), (0, .ref o), (1, .int (iI f)), (2, .int (iI j))] [] [oMo o th n a e dn at9 dp po kd wh re pl base sg xt row ror xi xd np nw nr nb ns yt nrw nir yi yd inf9, aB G a 3000 B] := by
                intro ev hC he9
                have hER : -999 ≤ rrE (wd B f j) (j - f) ∧ rrE (wd B f j) (j - f) ≤ 999 := by
                  unfold rrE; split
                  · exact exv_R (hC.2 (by assumption))
                  · exact ⟨by decide, by decide⟩
                refine s_iload X dX6_asReal_363 0 rfl ?_
                refine s_iload X dX6_asReal_365 1 rfl ?_
                refine s_isub X dX6_asReal_367 ?_
                refine s_istore X dX6_asReal_368 [(9, .int (iI (ev - x8))), (8, .int (iI x8)), (6, .double v2), (3, .int (iI ls)), (0, .ref o), (1, .int (iI f)), (2, .int (iI j))] (by decide) rfl ?_
                refine s_iconst X dX6_asReal_370 ?_
                refine s_istore X dX6_asReal_371 [(10, .int (iI 0)), (9, .int (iI (ev - x8))), (8, .int (iI x8)), (6, .double v2), (3, .int (iI ls)), (0, .ref o), (1, .int (iI f)), (2, .int (iI j))] (by decide) rfl ?_
                have lp4 : ∀ (m9 : Nat) (v : UInt64) (q : Int) (h1 : 0 ≤ q ∧ (q ≤ ev - x8 ∨ q = 0)) (h2 : v = mulN v2 4621819117588971520 q.toNat), (ev - x8 - q).toNat < m9 → SW K G 13 0 0 373 [(6, .double v), (10, .int (iI q)), (9, .int (iI (ev - x8))), (8, .int (iI x8)), (3, .int (iI ls)), (0, .ref o), (1, .int (iI f)), (2, .int (iI j))] [] [oMo o th n a e dn at9 dp po kd wh re pl base sg xt row ror xi xd np nw nr nb ns yt nrw nir yi yd inf9, aB G a 3000 B] := by
                  intro m9
                  induction m9 with
                  | zero => intro v q h1 h2 hm9; exact absurd hm9 (Nat.not_lt_zero _)
                  | succ m9 ih9 =>
                    intro v q h1 h2 hm9
                    refine s_iload X dX6_asReal_373 1 rfl ?_
                    refine s_iload X dX6_asReal_375 2 rfl ?_
                    refine s_icmp_ge X 394 dX6_asReal_377 (by decide) (by omega) (fun c377 => ?_) (fun c377 => ?_)
                    · refine s_iconst X dX6_asReal_394 ?_
                      refine s_istore X dX6_asReal_395 [(10, .int (iI 0)), (6, .double v), (9, .int (iI (ev - x8))), (8, .int (iI x8)), (3, .int (iI ls)), (0, .ref o), (1, .int (iI f)), (2, .int (iI j))] (by decide) rfl ?_
                      have lp5 : ∀ (m9 : Nat) (v3 : UInt64) (q2 : Int) (g1 : q2 ≤ 0 ∧ (ev - x8 ≤ q2 ∨ q2 = 0)) (g2 : v3 = divN (mulN v2 4621819117588971520 (ev - x8).toNat) 4621819117588971520 (-q2).toNat), (q2 - (ev - x8)).toNat < m9 → SW K G 13 0 0 397 [(6, .double v3), (10, .int (iI q2)), (9, .int (iI (ev - x8))), (8, .int (iI x8)), (3, .int (iI ls)), (0, .ref o), (1, .int (iI f)), (2, .int (iI j))] [] [oMo o th n a e dn at9 dp po kd wh re pl base sg xt row ror xi xd np nw nr nb ns yt nrw nir yi yd inf9, aB G a 3000 B] := by
                        intro m9
                        induction m9 with
                        | zero => intro v3 q2 g1 g2 hm9; exact absurd hm9 (Nat.not_lt_zero _)
                        | succ m9 ih9 =>
                          intro v3 q2 g1 g2 hm9
                          refine s_iload X dX6_asReal_397 1 rfl ?_
                          refine s_iload X dX6_asReal_399 2 rfl ?_
                          refine s_icmp_le X 418 dX6_asReal_401 (by decide) (by omega) (fun c401 => ?_) (fun c401 => ?_)
                          · have hl9 := hl
                            unfold lsIs at hl9
                            have hS9 : rrS (wd B f j) (j - f) = v3 := by unfold rrS scl; rw [g2, hv2, he9, h4.2, show (-q2).toNat = (-(rrE (wd B f j) (j - f) - (rrD (wd B f j) (j - f)))).toNat by omega]
                            have hN9 : NN v3 := by rw [g2]; exact NN_divN (NN_mulN hvN _) _
                            refine s_aload_n X dX6_asReal_418 rfl 5 rfl ?_
                            have j432 : ∀ (y : UInt64) (hy : y = rrV (wd B f j) (j - f)), SW K G 13 0 0 432 [(6, .double v3), (10, .int (iI q2)), (9, .int (iI (ev - x8))), (8, .int (iI x8)), (3, .int (iI ls)), (0, .ref o), (1, .int (iI f)), (2, .int (iI j))] [.double y, .ref o] [oMo o th n a e dn at9 dp po kd wh re pl base sg xt row ror xi xd np nw nr nb ns yt nrw nir yi yd inf9, aB G a 3000 B] := by
                              intro y hy
                              refine s_put X dX6_asReal_432 fl_X6_93 tyX6_ok nmX6 0 rfl rfl (rfl) (rfl) (Nat.le_of_ble_eq_true rfl) [oMo o th n a e dn at9 dp po kd wh re pl base sg xt row ror xi xd np nw y nb ns yt nrw nir yi yd inf9, aB G a 3000 B] rfl ?_
                              refine s_dload X dX6_asReal_435 0 rfl ?_
                              refine s_ldc2d X dX6_asReal_437 tg882 ?_
                              refine s_dbig X 449 dX6_asReal_440 dX6_asReal_441 (by decide) (fun c440 => ?_) (fun c440 => ?_)
                              · refine s_iconst X dX6_asReal_449 ?_
                                refine s_iret X Y dX6_asReal_450 (rfl) ?_
                                refine ⟨y, ?_, rfl, ?_⟩
                                · (first | (exfalso; omega) | (first | (rw [show rrA (wd B f j) (j - f) = -6 from by unfold rrA; rw [if_pos hC, if_pos (by rw [hS9]; assumption)]]; rfl) | (rw [show rrA (wd B f j) (j - f) = 2 from by unfold rrA; rw [if_pos hC, if_neg (by rw [hS9]; assumption)]]; rfl)))
                                · (first | (exfalso; omega) | (intro h; first | exact absurd h (by decide) | exact hy))
                              · refine s_bipush (-6) X dX6_asReal_444 (by decide) ?_
                                refine s_goto X 450 dX6_asReal_446 (by decide) ?_
                                refine s_iret X Y dX6_asReal_450 (rfl) ?_
                                refine ⟨y, ?_, rfl, ?_⟩
                                · (first | (exfalso; omega) | (first | (rw [show rrA (wd B f j) (j - f) = -6 from by unfold rrA; rw [if_pos hC, if_pos (by rw [hS9]; assumption)]]; rfl) | (rw [show rrA (wd B f j) (j - f) = 2 from by unfold rrA; rw [if_pos hC, if_neg (by rw [hS9]; assumption)]]; rfl)))
                                · (first | (exfalso; omega) | (intro h; first | exact absurd h (by decide) | exact hy))
                            refine s_iload_n X dX6_asReal_419 rfl 4 rfl ?_
                            refine s_if_eq X 430 dX6_asReal_420 (by decide) (by omega) (fun c420 => ?_) (fun c420 => ?_)
                            · refine s_dload X dX6_asReal_430 0 rfl ?_
                              exact j432 v3 (by unfold rrV; first | rw [if_pos (by omega), hS9] | rw [if_neg (by omega), hS9])
                            · refine s_dconst0 X dX6_asReal_423 ?_
                              refine s_dload X dX6_asReal_424 0 rfl ?_
                              refine s_dsub X dX6_asReal_426 (NN_sub hN9) ?_
                              refine s_goto X 432 dX6_asReal_427 (by decide) ?_
                              exact j432 (FP.dsub FP.dconst0 v3) (by unfold rrV; first | rw [if_pos (by omega), hS9] | rw [if_neg (by omega), hS9])
                          · refine s_dload X dX6_asReal_404 0 rfl ?_
                            refine s_ldc2d X dX6_asReal_406 tg881 ?_
                            refine s_ddiv X dX6_asReal_409 (by rw [g2]; exact (NN_div (NN_divN (NN_mulN hvN _) _)).1) ?_
                            refine s_dstore X dX6_asReal_410 [(6, .double (FP.ddiv v3 4621819117588971520)), (10, .int (iI q2)), (9, .int (iI (ev - x8))), (8, .int (iI x8)), (3, .int (iI ls)), (0, .ref o), (1, .int (iI f)), (2, .int (iI j))] (by decide) rfl ?_
                            refine s_iinc (z := q2 + (-1)) X dX6_asReal_412 1 rfl (by first | rfl | omega) [(10, .int (iI (q2 + (-1)))), (6, .double (FP.ddiv v3 4621819117588971520)), (9, .int (iI (ev - x8))), (8, .int (iI x8)), (3, .int (iI ls)), (0, .ref o), (1, .int (iI f)), (2, .int (iI j))] (by decide) rfl ?_
                            refine s_goto X 397 dX6_asReal_415 (by decide) ?_
                            refine s_locs (lv' := [(6, .double (FP.ddiv v3 4621819117588971520)), (10, .int (iI (q2 + (-1)))), (9, .int (iI (ev - x8))), (8, .int (iI x8)), (3, .int (iI ls)), (0, .ref o), (1, .int (iI f)), (2, .int (iI j))]) [1, 0, 2, 3, 4, 5, 6, 7] rfl ?_
                            exact ih9 (FP.ddiv v3 4621819117588971520) (q2 + (-1)) (by omega) (by rw [g2, show (-(q2 + (-1))).toNat = (-q2).toNat + 1 by omega]; rfl) (by omega)
                      refine s_locs (lv' := [(6, .double v), (10, .int (iI 0)), (9, .int (iI (ev - x8))), (8, .int (iI x8)), (3, .int (iI ls)), (0, .ref o), (1, .int (iI f)), (2, .int (iI j))]) [1, 0, 2, 3, 4, 5, 6, 7] rfl ?_
                      exact lp5 _ v 0 (by omega) (by rw [h2, show q.toNat = (ev - x8).toNat by omega]; rfl) (Nat.lt_succ_self _)
                    · refine s_dload X dX6_asReal_380 0 rfl ?_
                      refine s_ldc2d X dX6_asReal_382 tg881 ?_
                      refine s_dmul X dX6_asReal_385 (by rw [h2]; exact (NN_mul (NN_mulN hvN _)).1) ?_
                      refine s_dstore X dX6_asReal_386 [(6, .double (FP.dmul v 4621819117588971520)), (10, .int (iI q)), (9, .int (iI (ev - x8))), (8, .int (iI x8)), (3, .int (iI ls)), (0, .ref o), (1, .int (iI f)), (2, .int (iI j))] (by decide) rfl ?_
                      refine s_iinc (z := q + 1) X dX6_asReal_388 1 rfl (by first | rfl | omega) [(10, .int (iI (q + 1))), (6, .double (FP.dmul v 4621819117588971520)), (9, .int (iI (ev - x8))), (8, .int (iI x8)), (3, .int (iI ls)), (0, .ref o), (1, .int (iI f)), (2, .int (iI j))] (by decide) rfl ?_
                      refine s_goto X 373 dX6_asReal_391 (by decide) ?_
                      refine s_locs (lv' := [(6, .double (FP.dmul v 4621819117588971520)), (10, .int (iI (q + 1))), (9, .int (iI (ev - x8))), (8, .int (iI x8)), (3, .int (iI ls)), (0, .ref o), (1, .int (iI f)), (2, .int (iI j))]) [1, 0, 2, 3, 4, 5, 6, 7] rfl ?_
                      exact ih9 (FP.dmul v 4621819117588971520) (q + 1) (by omega) (by rw [h2, show (q + 1).toNat = q.toNat + 1 by omega]; rfl) (by omega)
                refine s_locs (lv' := [(6, .double v2), (10, .int (iI 0)), (9, .int (iI (ev - x8))), (8, .int (iI x8)), (3, .int (iI ls)), (0, .ref o), (1, .int (iI f)), (2, .int (iI j))]) [3, 0, 1, 2, 4, 5, 6, 7] rfl ?_
                exact lp4 _ v2 0 (by omega) (rfl) (Nat.lt_succ_self _)
              refine s_iload X dX6_asReal_186 1 rfl ?_
              refine s_iload_n X dX6_asReal_188 rfl 8 rfl ?_
              refine s_icmp_ge X 355 dX6_asReal_189 (by decide) (by omega) (fun c189 => ?_) (fun c189 => ?_)
              · refine s_iload X dX6_asReal_355 1 rfl ?_
                refine s_iload_n X dX6_asReal_357 rfl 8 rfl ?_
                refine s_icmp_eq X 363 dX6_asReal_358 (by decide) (by omega) (fun c358 => ?_) (fun c358 => ?_)
                · refine s_locs (lv' := [(9, .int (iI 0)), (8, .int (iI x8)), (6, .double v2), (3, .int (iI ls)), (0, .ref o), (1, .int (iI f)), (2, .int (iI j))]) [0, 2, 3, 5, 6, 7, 8] rfl ?_
                  exact j363 0 (by first | exact ⟨by omega, fun h => by omega⟩ | exact ⟨by omega, fun _ => ⟨hE, by omega, by omega, by omega⟩⟩) (by unfold rrE; first | (rw [if_neg (by omega)]; done) | (rw [if_pos (by omega)]; have hq9 : (de (wd B f j) (j - f) 10 (bs (wd B f j) (rrT (wd B f j) (j - f) + 1))) = (j - f) := (by omega); rw [hq9] at hv9; have hX := exv_C (wd B f j) (j - f) (rrT (wd B f j) (j - f)); omega))
                · refine s_iconst X dX6_asReal_361 ?_
                  refine s_iret X Y dX6_asReal_362 (rfl) ?_
                  refine ⟨nr, ?_, rfl, ?_⟩
                  · (first | (exfalso; omega) | (refine (if_pos (show rrA (wd B f j) (j - f) = 3 from if_neg (fun h => ?_))).symm; obtain ⟨a1, a2, a3, a4⟩ := h.2 (by omega); omega))
                  · (first | (exfalso; omega) | (intro h; exact absurd h (by decide)))
              · have j214 : ∀  (hE : (wd B f j) (rrT (wd B f j) (j - f)) = 101 ∨ (wd B f j) (rrT (wd B f j) (j - f)) = 69), SW K G 13 0 0 214 [(9, .int (iI 0)), (4, .int (iI k4)), (8, .int (iI x8)), (6, .double v2), (5, .int (iI ((rrP (wd B f j) (j - f)) - bs (wd B f j) 0))), (3, .int (iI ls)), (0, .ref o), (1, .int (iI f)), (2, .int (iI j))] [] [oMo o th n a e dn at9 dp po kd wh re pl base sg xt row ror xi xd np nw nr nb ns yt nrw nir yi yd inf9, aB G a 3000 B] := by
                  intro hE
                  refine s_iinc (z := k4 + 1) X dX6_asReal_214 1 rfl (by first | rfl | omega) [(4, .int (iI (k4 + 1))), (9, .int (iI 0)), (8, .int (iI x8)), (6, .double v2), (5, .int (iI ((rrP (wd B f j) (j - f)) - bs (wd B f j) 0))), (3, .int (iI ls)), (0, .ref o), (1, .int (iI f)), (2, .int (iI j))] (by decide) rfl ?_
                  have j274 : ∀ (dwn : Int) (k6 : Int) (hd : (dwn = 1 ∧ (wd B f j) ((rrT (wd B f j) (j - f)) + 1) = 45) ∨ (dwn = 0 ∧ ¬ (wd B f j) ((rrT (wd B f j) (j - f)) + 1) = 45)) (hk6 : k6 - f = (bs (wd B f j) (rrT (wd B f j) (j - f) + 1))) (hk7 : k6 ≤ j ∧ (rrT (wd B f j) (j - f)) + 1 ≤ (bs (wd B f j) (rrT (wd B f j) (j - f) + 1))), SW K G 13 0 0 274 [(10, .int (iI dwn)), (4, .int (iI k6)), (9, .int (iI 0)), (8, .int (iI x8)), (6, .double v2), (5, .int (iI ((rrP (wd B f j) (j - f)) - bs (wd B f j) 0))), (3, .int (iI ls)), (0, .ref o), (1, .int (iI f)), (2, .int (iI j))] [] [oMo o th n a e dn at9 dp po kd wh re pl base sg xt row ror xi xd np nw nr nb ns yt nrw nir yi yd inf9, aB G a 3000 B] := by
                    intro dwn k6 hd hk6 hk7
                    have hqR : (bs (wd B f j) (rrT (wd B f j) (j - f) + 1)) ≤ (de (wd B f j) (j - f) 10 (bs (wd B f j) (rrT (wd B f j) (j - f) + 1))) ∧ (de (wd B f j) (j - f) 10 (bs (wd B f j) (rrT (wd B f j) (j - f) + 1))) ≤ (j - f) := de_R _ _ rfl (by omega)
                    have hdE : ∀ x, (bs (wd B f j) (rrT (wd B f j) (j - f) + 1)) ≤ x → x < (de (wd B f j) (j - f) 10 (bs (wd B f j) (rrT (wd B f j) (j - f) + 1))) → x < (j - f) → dg ((wd B f j) x) < 10 := de_lt (w := (wd B f j)) (len := (j - f)) (base := 10) _ _ rfl
                    refine s_aload_n X dX6_asReal_274 rfl 7 rfl ?_
                    refine s_iload X dX6_asReal_275 1 rfl ?_
                    refine s_iload_n X dX6_asReal_277 rfl 9 rfl ?_
                    refine s_callIV X lk_X6_67 [0, 1] [] (wr := []) rfl rfl (by decide) (by decide) (by decide) (c_X6_digitsFrom (kl K) G o a po xt xi xd yt yi yd th n e dn at9 dp kd wh pl base sg row ror np nw nb ns nrw nir inf9 re nr B f k6 j (by assumption) (by assumption) (by omega)) rfl rfl dX6_asReal_278 rfl rfl (Nat.le_of_ble_eq_true rfl) (by decide) (fun z5 w5 h5 => ?_)
                    obtain ⟨rfl, rfl⟩ := h5
                    show SW K G 13 0 0 281 [(10, .int (iI dwn)), (4, .int (iI k6)), (9, .int (iI 0)), (8, .int (iI x8)), (6, .double v2), (5, .int (iI ((rrP (wd B f j) (j - f)) - bs (wd B f j) 0))), (3, .int (iI ls)), (0, .ref o), (1, .int (iI f)), (2, .int (iI j))] [.int (iI (de (wd B f j) (j - f) 10 (k6 - f) - (k6 - f)))] [oMo o th n a e dn at9 dp po kd wh re pl base sg xt row ror xi xd np nw nr nb ns yt nrw nir yi yd inf9, aB G a 3000 B]
                    have q6 := de_C (wd B f j) (j - f) 10 (k6 - f)
                    refine s_cast (st' := [.int (iI ((de (wd B f j) (j - f) 10 (bs (wd B f j) (rrT (wd B f j) (j - f) + 1))) - (bs (wd B f j) (rrT (wd B f j) (j - f) + 1))))]) (by rw [hk6]) rfl rfl ?_
                    refine s_istore X dX6_asReal_281 [(11, .int (iI ((de (wd B f j) (j - f) 10 (bs (wd B f j) (rrT (wd B f j) (j - f) + 1))) - (bs (wd B f j) (rrT (wd B f j) (j - f) + 1))))), (10, .int (iI dwn)), (4, .int (iI k6)), (9, .int (iI 0)), (8, .int (iI x8)), (6, .double v2), (5, .int (iI ((rrP (wd B f j) (j - f)) - bs (wd B f j) 0))), (3, .int (iI ls)), (0, .ref o), (1, .int (iI f)), (2, .int (iI j))] (by decide) rfl ?_
                    refine s_iload X dX6_asReal_283 0 rfl ?_
                    refine s_iconst X dX6_asReal_285 ?_
                    refine s_icmp_lt X 295 dX6_asReal_286 (by decide) (by omega) (fun c286 => ?_) (fun c286 => ?_)
                    · refine s_iconst X dX6_asReal_295 ?_
                      refine s_iret X Y dX6_asReal_296 (rfl) ?_
                      refine ⟨nr, ?_, rfl, ?_⟩
                      · (first | (exfalso; omega) | (refine (if_pos (show rrA (wd B f j) (j - f) = 3 from if_neg (fun h => ?_))).symm; obtain ⟨a1, a2, a3, a4⟩ := h.2 (by omega); omega))
                      · (first | (exfalso; omega) | (intro h; exact absurd h (by decide)))
                    · refine s_iload X dX6_asReal_289 0 rfl ?_
                      refine s_iconst X dX6_asReal_291 ?_
                      refine s_icmp_le X 297 dX6_asReal_292 (by decide) (by omega) (fun c292 => ?_) (fun c292 => ?_)
                      · refine s_iconst X dX6_asReal_297 ?_
                        refine s_istore X dX6_asReal_298 [(12, .int (iI 0)), (11, .int (iI ((de (wd B f j) (j - f) 10 (bs (wd B f j) (rrT (wd B f j) (j - f) + 1))) - (bs (wd B f j) (rrT (wd B f j) (j - f) + 1))))), (10, .int (iI dwn)), (4, .int (iI k6)), (9, .int (iI 0)), (8, .int (iI x8)), (6, .double v2), (5, .int (iI ((rrP (wd B f j) (j - f)) - bs (wd B f j) 0))), (3, .int (iI ls)), (0, .ref o), (1, .int (iI f)), (2, .int (iI j))] (by decide) rfl ?_
                        have lp3 : ∀ (m9 : Nat) (x : Int) (ev : Int) (h1 : 0 ≤ x ∧ x ≤ (de (wd B f j) (j - f) 10 (bs (wd B f j) (rrT (wd B f j) (j - f) + 1))) - (bs (wd B f j) (rrT (wd B f j) (j - f) + 1)) ∧ 0 ≤ ev ∧ ((x = 0 ∧ ev = 0) ∨ (x = 1 ∧ ev ≤ 9) ∨ (x = 2 ∧ ev ≤ 99) ∨ (x = 3 ∧ ev ≤ 999))) (h2 : vo (wd B f j) 10 ((bs (wd B f j) (rrT (wd B f j) (j - f) + 1)) + x) (de (wd B f j) (j - f) 10 (bs (wd B f j) (rrT (wd B f j) (j - f) + 1))) ev = vo (wd B f j) 10 (bs (wd B f j) (rrT (wd B f j) (j - f) + 1)) (de (wd B f j) (j - f) 10 (bs (wd B f j) (rrT (wd B f j) (j - f) + 1))) 0), ((de (wd B f j) (j - f) 10 (bs (wd B f j) (rrT (wd B f j) (j - f) + 1))) - (bs (wd B f j) (rrT (wd B f j) (j - f) + 1)) - x).toNat < m9 → SW K G 13 0 0 300 [(12, .int (iI x)), (9, .int (iI ev)), (11, .int (iI ((de (wd B f j) (j - f) 10 (bs (wd B f j) (rrT (wd B f j) (j - f) + 1))) - (bs (wd B f j) (rrT (wd B f j) (j - f) + 1))))), (10, .int (iI dwn)), (4, .int (iI k6)), (8, .int (iI x8)), (6, .double v2), (5, .int (iI ((rrP (wd B f j) (j - f)) - bs (wd B f j) 0))), (3, .int (iI ls)), (0, .ref o), (1, .int (iI f)), (2, .int (iI j))] [] [oMo o th n a e dn at9 dp po kd wh re pl base sg xt row ror xi xd np nw nr nb ns yt nrw nir yi yd inf9, aB G a 3000 B] := by
                          intro m9
                          induction m9 with
                          | zero => intro x ev h1 h2 hm9; exact absurd hm9 (Nat.not_lt_zero _)
                          | succ m9 ih9 =>
                            intro x ev h1 h2 hm9
                            refine s_iload X dX6_asReal_300 0 rfl ?_
                            refine s_iload X dX6_asReal_302 2 rfl ?_
                            refine s_icmp_ge X 333 dX6_asReal_304 (by decide) (by omega) (fun c304 => ?_) (fun c304 => ?_)
                            · have hv9 : ev = vo (wd B f j) 10 (bs (wd B f j) (rrT (wd B f j) (j - f) + 1)) (de (wd B f j) (j - f) 10 (bs (wd B f j) (rrT (wd B f j) (j - f) + 1))) 0 := by rw [← h2, vo_out (by omega)]
                              refine s_iload X dX6_asReal_333 3 rfl ?_
                              refine s_if_eq X 344 dX6_asReal_335 (by decide) (by omega) (fun c335 => ?_) (fun c335 => ?_)
                              · refine s_iload X dX6_asReal_344 1 rfl ?_
                                refine s_istore X dX6_asReal_346 [(9, .int (iI ev)), (12, .int (iI x)), (11, .int (iI ((de (wd B f j) (j - f) 10 (bs (wd B f j) (rrT (wd B f j) (j - f) + 1))) - (bs (wd B f j) (rrT (wd B f j) (j - f) + 1))))), (10, .int (iI dwn)), (4, .int (iI k6)), (8, .int (iI x8)), (6, .double v2), (5, .int (iI ((rrP (wd B f j) (j - f)) - bs (wd B f j) 0))), (3, .int (iI ls)), (0, .ref o), (1, .int (iI f)), (2, .int (iI j))] (by decide) rfl ?_
                                refine s_iload X dX6_asReal_348 4 rfl ?_
                                refine s_iload X dX6_asReal_350 2 rfl ?_
                                refine s_iadd X dX6_asReal_352 ?_
                                refine s_istore X dX6_asReal_353 [(4, .int (iI (k6 + ((de (wd B f j) (j - f) 10 (bs (wd B f j) (rrT (wd B f j) (j - f) + 1))) - (bs (wd B f j) (rrT (wd B f j) (j - f) + 1)))))), (9, .int (iI ev)), (12, .int (iI x)), (11, .int (iI ((de (wd B f j) (j - f) 10 (bs (wd B f j) (rrT (wd B f j) (j - f) + 1))) - (bs (wd B f j) (rrT (wd B f j) (j - f) + 1))))), (10, .int (iI dwn)), (8, .int (iI x8)), (6, .double v2), (5, .int (iI ((rrP (wd B f j) (j - f)) - bs (wd B f j) 0))), (3, .int (iI ls)), (0, .ref o), (1, .int (iI f)), (2, .int (iI j))] (by decide) rfl ?_
                                refine s_iload X dX6_asReal_355 0 rfl ?_
                                refine s_iload_n X dX6_asReal_357 rfl 11 rfl ?_
                                refine s_icmp_eq X 363 dX6_asReal_358 (by decide) (by omega) (fun c358 => ?_) (fun c358 => ?_)
                                · refine s_locs (lv' := [(9, .int (iI ev)), (8, .int (iI x8)), (6, .double v2), (3, .int (iI ls)), (0, .ref o), (1, .int (iI f)), (2, .int (iI j))]) [1, 5, 6, 8, 9, 10, 11] rfl ?_
                                  exact j363 ev (by first | exact ⟨by omega, fun h => by omega⟩ | exact ⟨by omega, fun _ => ⟨hE, by omega, by omega, by omega⟩⟩) (by unfold rrE; first | (rw [if_neg (by omega)]; done) | (rw [if_pos (by omega)]; have hq9 : (de (wd B f j) (j - f) 10 (bs (wd B f j) (rrT (wd B f j) (j - f) + 1))) = (j - f) := (by omega); rw [hq9] at hv9; have hX := exv_C (wd B f j) (j - f) (rrT (wd B f j) (j - f)); omega))
                                · refine s_iconst X dX6_asReal_361 ?_
                                  refine s_iret X Y dX6_asReal_362 (rfl) ?_
                                  refine ⟨nr, ?_, rfl, ?_⟩
                                  · (first | (exfalso; omega) | (refine (if_pos (show rrA (wd B f j) (j - f) = 3 from if_neg (fun h => ?_))).symm; obtain ⟨a1, a2, a3, a4⟩ := h.2 (by omega); omega))
                                  · (first | (exfalso; omega) | (intro h; exact absurd h (by decide)))
                              · refine s_iload X dX6_asReal_338 1 rfl ?_
                                refine s_ineg X dX6_asReal_340 ?_
                                refine s_goto X 346 dX6_asReal_341 (by decide) ?_
                                refine s_istore X dX6_asReal_346 [(9, .int (iI (-ev))), (12, .int (iI x)), (11, .int (iI ((de (wd B f j) (j - f) 10 (bs (wd B f j) (rrT (wd B f j) (j - f) + 1))) - (bs (wd B f j) (rrT (wd B f j) (j - f) + 1))))), (10, .int (iI dwn)), (4, .int (iI k6)), (8, .int (iI x8)), (6, .double v2), (5, .int (iI ((rrP (wd B f j) (j - f)) - bs (wd B f j) 0))), (3, .int (iI ls)), (0, .ref o), (1, .int (iI f)), (2, .int (iI j))] (by decide) rfl ?_
                                refine s_iload X dX6_asReal_348 4 rfl ?_
                                refine s_iload X dX6_asReal_350 2 rfl ?_
                                refine s_iadd X dX6_asReal_352 ?_
                                refine s_istore X dX6_asReal_353 [(4, .int (iI (k6 + ((de (wd B f j) (j - f) 10 (bs (wd B f j) (rrT (wd B f j) (j - f) + 1))) - (bs (wd B f j) (rrT (wd B f j) (j - f) + 1)))))), (9, .int (iI (-ev))), (12, .int (iI x)), (11, .int (iI ((de (wd B f j) (j - f) 10 (bs (wd B f j) (rrT (wd B f j) (j - f) + 1))) - (bs (wd B f j) (rrT (wd B f j) (j - f) + 1))))), (10, .int (iI dwn)), (8, .int (iI x8)), (6, .double v2), (5, .int (iI ((rrP (wd B f j) (j - f)) - bs (wd B f j) 0))), (3, .int (iI ls)), (0, .ref o), (1, .int (iI f)), (2, .int (iI j))] (by decide) rfl ?_
                                refine s_iload X dX6_asReal_355 0 rfl ?_
                                refine s_iload_n X dX6_asReal_357 rfl 11 rfl ?_
                                refine s_icmp_eq X 363 dX6_asReal_358 (by decide) (by omega) (fun c358 => ?_) (fun c358 => ?_)
                                · refine s_locs (lv' := [(9, .int (iI (-ev))), (8, .int (iI x8)), (6, .double v2), (3, .int (iI ls)), (0, .ref o), (1, .int (iI f)), (2, .int (iI j))]) [1, 5, 6, 8, 9, 10, 11] rfl ?_
                                  exact j363 (-ev) (by first | exact ⟨by omega, fun h => by omega⟩ | exact ⟨by omega, fun _ => ⟨hE, by omega, by omega, by omega⟩⟩) (by unfold rrE; first | (rw [if_neg (by omega)]; done) | (rw [if_pos (by omega)]; have hq9 : (de (wd B f j) (j - f) 10 (bs (wd B f j) (rrT (wd B f j) (j - f) + 1))) = (j - f) := (by omega); rw [hq9] at hv9; have hX := exv_C (wd B f j) (j - f) (rrT (wd B f j) (j - f)); omega))
                                · refine s_iconst X dX6_asReal_361 ?_
                                  refine s_iret X Y dX6_asReal_362 (rfl) ?_
                                  refine ⟨nr, ?_, rfl, ?_⟩
                                  · (first | (exfalso; omega) | (refine (if_pos (show rrA (wd B f j) (j - f) = 3 from if_neg (fun h => ?_))).symm; obtain ⟨a1, a2, a3, a4⟩ := h.2 (by omega); omega))
                                  · (first | (exfalso; omega) | (intro h; exact absurd h (by decide)))
                            · refine s_bipush 10 X dX6_asReal_307 (by decide) ?_
                              refine s_iload X dX6_asReal_309 1 rfl ?_
                              refine s_imul X dX6_asReal_311 ?_
                              refine s_aload_n X dX6_asReal_312 rfl 9 rfl ?_
                              refine s_iload X dX6_asReal_313 4 rfl ?_
                              refine s_iload X dX6_asReal_315 0 rfl ?_
                              refine s_iadd X dX6_asReal_317 ?_
                              refine s_callIV X lk_X6_63 [0, 1] [] (wr := []) rfl rfl (by decide) (by decide) (by decide) (c_X6_byteAt (kl K) G o a po xt xi xd yt yi yd th n e dn at9 dp kd wh pl base sg row ror np nw nb ns nrw nir inf9 re nr B (k6 + x) (by assumption) (by assumption) (by omega)) rfl rfl dX6_asReal_318 rfl rfl (Nat.le_of_ble_eq_true rfl) (by decide) (fun z7 w7 h7 => ?_)
                              obtain ⟨rfl, rfl⟩ := h7
                              show SW K G 13 0 0 321 [(12, .int (iI x)), (9, .int (iI ev)), (11, .int (iI ((de (wd B f j) (j - f) 10 (bs (wd B f j) (rrT (wd B f j) (j - f) + 1))) - (bs (wd B f j) (rrT (wd B f j) (j - f) + 1))))), (10, .int (iI dwn)), (4, .int (iI k6)), (8, .int (iI x8)), (6, .double v2), (5, .int (iI ((rrP (wd B f j) (j - f)) - bs (wd B f j) 0))), (3, .int (iI ls)), (0, .ref o), (1, .int (iI f)), (2, .int (iI j))] [.int (iI (bA B n (k6 + x))), .int (iI (10 * ev))] [oMo o th n a e dn at9 dp po kd wh re pl base sg xt row ror xi xd np nw nr nb ns yt nrw nir yi yd inf9, aB G a 3000 B]
                              have q8 := bA_C n (k6 + x) (by assumption : ∀ j, B j < 256)
                              have e9 : bA B n (k6 + x) = (wd B f j) ((bs (wd B f j) (rrT (wd B f j) (j - f) + 1)) + x) := by rw [wd_bA (i := f) (j := j) (by omega), show k6 + x - f = (bs (wd B f j) (rrT (wd B f j) (j - f) + 1)) + x by omega]
                              have d8 := dg_C ((wd B f j) ((bs (wd B f j) (rrT (wd B f j) (j - f) + 1)) + x))
                              have d7 : dg ((wd B f j) ((bs (wd B f j) (rrT (wd B f j) (j - f) + 1)) + x)) < 10 := hdE _ (by omega) (by omega) (by omega)
                              refine s_iadd X dX6_asReal_321 ?_
                              refine s_bipush 48 X dX6_asReal_322 (by decide) ?_
                              refine s_isub X dX6_asReal_324 ?_
                              refine s_istore X dX6_asReal_325 [(9, .int (iI (((10 * ev) + (bA B n (k6 + x))) - 48))), (12, .int (iI x)), (11, .int (iI ((de (wd B f j) (j - f) 10 (bs (wd B f j) (rrT (wd B f j) (j - f) + 1))) - (bs (wd B f j) (rrT (wd B f j) (j - f) + 1))))), (10, .int (iI dwn)), (4, .int (iI k6)), (8, .int (iI x8)), (6, .double v2), (5, .int (iI ((rrP (wd B f j) (j - f)) - bs (wd B f j) 0))), (3, .int (iI ls)), (0, .ref o), (1, .int (iI f)), (2, .int (iI j))] (by decide) rfl ?_
                              refine s_iinc (z := x + 1) X dX6_asReal_327 1 rfl (by first | rfl | omega) [(12, .int (iI (x + 1))), (9, .int (iI (((10 * ev) + (bA B n (k6 + x))) - 48))), (11, .int (iI ((de (wd B f j) (j - f) 10 (bs (wd B f j) (rrT (wd B f j) (j - f) + 1))) - (bs (wd B f j) (rrT (wd B f j) (j - f) + 1))))), (10, .int (iI dwn)), (4, .int (iI k6)), (8, .int (iI x8)), (6, .double v2), (5, .int (iI ((rrP (wd B f j) (j - f)) - bs (wd B f j) 0))), (3, .int (iI ls)), (0, .ref o), (1, .int (iI f)), (2, .int (iI j))] (by decide) rfl ?_
                              refine s_goto X 300 dX6_asReal_330 (by decide) ?_
                              exact ih9 (x + 1) (((10 * ev) + (bA B n (k6 + x))) - 48) (by omega) (by rw [← h2, vo_s (i := (bs (wd B f j) (rrT (wd B f j) (j - f) + 1)) + x) (by omega), sat_id (by omega), show ev * 10 + dg ((wd B f j) ((bs (wd B f j) (rrT (wd B f j) (j - f) + 1)) + x)) = 10 * ev + bA B n (k6 + x) - 48 by omega, show (bs (wd B f j) (rrT (wd B f j) (j - f) + 1)) + (x + 1) = (bs (wd B f j) (rrT (wd B f j) (j - f) + 1)) + x + 1 by omega]) (by omega)
                        refine s_locs (lv' := [(12, .int (iI 0)), (9, .int (iI 0)), (11, .int (iI ((de (wd B f j) (j - f) 10 (bs (wd B f j) (rrT (wd B f j) (j - f) + 1))) - (bs (wd B f j) (rrT (wd B f j) (j - f) + 1))))), (10, .int (iI dwn)), (4, .int (iI k6)), (8, .int (iI x8)), (6, .double v2), (5, .int (iI ((rrP (wd B f j) (j - f)) - bs (wd B f j) 0))), (3, .int (iI ls)), (0, .ref o), (1, .int (iI f)), (2, .int (iI j))]) [0, 4, 1, 2, 3, 5, 6, 7, 8, 9, 10, 11] rfl ?_
                        exact lp3 _ 0 0 (by omega) (by rw [Int.add_zero]) (Nat.lt_succ_self _)
                      · refine s_iconst X dX6_asReal_295 ?_
                        refine s_iret X Y dX6_asReal_296 (rfl) ?_
                        refine ⟨nr, ?_, rfl, ?_⟩
                        · (first | (exfalso; omega) | (refine (if_pos (show rrA (wd B f j) (j - f) = 3 from if_neg (fun h => ?_))).symm; obtain ⟨a1, a2, a3, a4⟩ := h.2 (by omega); omega))
                        · (first | (exfalso; omega) | (intro h; exact absurd h (by decide)))
                  refine s_iload X dX6_asReal_217 0 rfl ?_
                  refine s_iload_n X dX6_asReal_219 rfl 8 rfl ?_
                  refine s_icmp_ge X 238 dX6_asReal_220 (by decide) (by omega) (fun c220 => ?_) (fun c220 => ?_)
                  · refine s_iconst X dX6_asReal_238 ?_
                    refine s_istore X dX6_asReal_239 [(10, .int (iI 0)), (4, .int (iI (k4 + 1))), (9, .int (iI 0)), (8, .int (iI x8)), (6, .double v2), (5, .int (iI ((rrP (wd B f j) (j - f)) - bs (wd B f j) 0))), (3, .int (iI ls)), (0, .ref o), (1, .int (iI f)), (2, .int (iI j))] (by decide) rfl ?_
                    refine s_iload X dX6_asReal_241 0 rfl ?_
                    refine s_if_ne X 263 dX6_asReal_243 (by decide) (by omega) (fun c243 => ?_) (fun c243 => ?_)
                    · refine s_iload X dX6_asReal_263 1 rfl ?_
                      refine s_iconst X dX6_asReal_265 ?_
                      refine s_iadd X dX6_asReal_266 ?_
                      refine s_goto X 272 dX6_asReal_267 (by decide) ?_
                      refine s_istore X dX6_asReal_272 [(4, .int (iI ((k4 + 1) + 1))), (10, .int (iI 0)), (9, .int (iI 0)), (8, .int (iI x8)), (6, .double v2), (5, .int (iI ((rrP (wd B f j) (j - f)) - bs (wd B f j) 0))), (3, .int (iI ls)), (0, .ref o), (1, .int (iI f)), (2, .int (iI j))] (by decide) rfl ?_
                      refine s_locs (lv' := [(10, .int (iI 0)), (4, .int (iI ((k4 + 1) + 1))), (9, .int (iI 0)), (8, .int (iI x8)), (6, .double v2), (5, .int (iI ((rrP (wd B f j) (j - f)) - bs (wd B f j) 0))), (3, .int (iI ls)), (0, .ref o), (1, .int (iI f)), (2, .int (iI j))]) [1, 0, 2, 3, 4, 5, 6, 7, 8, 9] rfl ?_
                      exact j274 0 ((k4 + 1) + 1) (by first | omega | (have h8 : (wd B f j) ((rrT (wd B f j) (j - f)) + 1) = -1 := wd_out (by omega); omega)) (by have h9 := bs_C (wd B f j) ((rrT (wd B f j) (j - f)) + 1); first | omega | (have h8 : (wd B f j) ((rrT (wd B f j) (j - f)) + 1) = -1 := wd_out (by omega); omega)) (by have h9 := bs_C (wd B f j) ((rrT (wd B f j) (j - f)) + 1); first | omega | (have h8 : (wd B f j) ((rrT (wd B f j) (j - f)) + 1) = -1 := wd_out (by omega); omega))
                    · refine s_iload X dX6_asReal_246 1 rfl ?_
                      refine s_iload_n X dX6_asReal_248 rfl 9 rfl ?_
                      refine s_icmp_ge X 270 dX6_asReal_249 (by decide) (by omega) (fun c249 => ?_) (fun c249 => ?_)
                      · refine s_iload X dX6_asReal_270 1 rfl ?_
                        refine s_istore X dX6_asReal_272 [(4, .int (iI (k4 + 1))), (10, .int (iI 0)), (9, .int (iI 0)), (8, .int (iI x8)), (6, .double v2), (5, .int (iI ((rrP (wd B f j) (j - f)) - bs (wd B f j) 0))), (3, .int (iI ls)), (0, .ref o), (1, .int (iI f)), (2, .int (iI j))] (by decide) rfl ?_
                        refine s_locs (lv' := [(10, .int (iI 0)), (4, .int (iI (k4 + 1))), (9, .int (iI 0)), (8, .int (iI x8)), (6, .double v2), (5, .int (iI ((rrP (wd B f j) (j - f)) - bs (wd B f j) 0))), (3, .int (iI ls)), (0, .ref o), (1, .int (iI f)), (2, .int (iI j))]) [1, 0, 2, 3, 4, 5, 6, 7, 8, 9] rfl ?_
                        exact j274 0 (k4 + 1) (by first | omega | (have h8 : (wd B f j) ((rrT (wd B f j) (j - f)) + 1) = -1 := wd_out (by omega); omega)) (by have h9 := bs_C (wd B f j) ((rrT (wd B f j) (j - f)) + 1); first | omega | (have h8 : (wd B f j) ((rrT (wd B f j) (j - f)) + 1) = -1 := wd_out (by omega); omega)) (by have h9 := bs_C (wd B f j) ((rrT (wd B f j) (j - f)) + 1); first | omega | (have h8 : (wd B f j) ((rrT (wd B f j) (j - f)) + 1) = -1 := wd_out (by omega); omega))
                      · refine s_aload_n X dX6_asReal_252 rfl 7 rfl ?_
                        refine s_iload X dX6_asReal_253 1 rfl ?_
                        refine s_callIV X lk_X6_63 [0, 1] [] (wr := []) rfl rfl (by decide) (by decide) (by decide) (c_X6_byteAt (kl K) G o a po xt xi xd yt yi yd th n e dn at9 dp kd wh pl base sg row ror np nw nb ns nrw nir inf9 re nr B (k4 + 1) (by assumption) (by assumption) (by omega)) rfl rfl dX6_asReal_255 rfl rfl (Nat.le_of_ble_eq_true rfl) (by decide) (fun z9 w9 h9 => ?_)
                        obtain ⟨rfl, rfl⟩ := h9
                        show SW K G 13 0 0 258 [(10, .int (iI 0)), (4, .int (iI (k4 + 1))), (9, .int (iI 0)), (8, .int (iI x8)), (6, .double v2), (5, .int (iI ((rrP (wd B f j) (j - f)) - bs (wd B f j) 0))), (3, .int (iI ls)), (0, .ref o), (1, .int (iI f)), (2, .int (iI j))] [.int (iI (bA B n (k4 + 1)))] [oMo o th n a e dn at9 dp po kd wh re pl base sg xt row ror xi xd np nw nr nb ns yt nrw nir yi yd inf9, aB G a 3000 B]
                        have q10 := bA_C n (k4 + 1) (by assumption : ∀ j, B j < 256)
                        have eS2 : bA B n (k4 + 1) = (wd B f j) ((rrT (wd B f j) (j - f)) + 1) := by rw [wd_bA (i := f) (j := j) (by omega), show k4 + 1 - f = (rrT (wd B f j) (j - f)) + 1 by omega]
                        refine s_bipush 43 X dX6_asReal_258 (by decide) ?_
                        refine s_icmp_ne X 270 dX6_asReal_260 (by decide) (by omega) (fun c260 => ?_) (fun c260 => ?_)
                        · refine s_iload X dX6_asReal_270 1 rfl ?_
                          refine s_istore X dX6_asReal_272 [(4, .int (iI (k4 + 1))), (10, .int (iI 0)), (9, .int (iI 0)), (8, .int (iI x8)), (6, .double v2), (5, .int (iI ((rrP (wd B f j) (j - f)) - bs (wd B f j) 0))), (3, .int (iI ls)), (0, .ref o), (1, .int (iI f)), (2, .int (iI j))] (by decide) rfl ?_
                          refine s_locs (lv' := [(10, .int (iI 0)), (4, .int (iI (k4 + 1))), (9, .int (iI 0)), (8, .int (iI x8)), (6, .double v2), (5, .int (iI ((rrP (wd B f j) (j - f)) - bs (wd B f j) 0))), (3, .int (iI ls)), (0, .ref o), (1, .int (iI f)), (2, .int (iI j))]) [1, 0, 2, 3, 4, 5, 6, 7, 8, 9] rfl ?_
                          exact j274 0 (k4 + 1) (by first | omega | (have h8 : (wd B f j) ((rrT (wd B f j) (j - f)) + 1) = -1 := wd_out (by omega); omega)) (by have h9 := bs_C (wd B f j) ((rrT (wd B f j) (j - f)) + 1); first | omega | (have h8 : (wd B f j) ((rrT (wd B f j) (j - f)) + 1) = -1 := wd_out (by omega); omega)) (by have h9 := bs_C (wd B f j) ((rrT (wd B f j) (j - f)) + 1); first | omega | (have h8 : (wd B f j) ((rrT (wd B f j) (j - f)) + 1) = -1 := wd_out (by omega); omega))
                        · refine s_iload X dX6_asReal_263 1 rfl ?_
                          refine s_iconst X dX6_asReal_265 ?_
                          refine s_iadd X dX6_asReal_266 ?_
                          refine s_goto X 272 dX6_asReal_267 (by decide) ?_
                          refine s_istore X dX6_asReal_272 [(4, .int (iI ((k4 + 1) + 1))), (10, .int (iI 0)), (9, .int (iI 0)), (8, .int (iI x8)), (6, .double v2), (5, .int (iI ((rrP (wd B f j) (j - f)) - bs (wd B f j) 0))), (3, .int (iI ls)), (0, .ref o), (1, .int (iI f)), (2, .int (iI j))] (by decide) rfl ?_
                          refine s_locs (lv' := [(10, .int (iI 0)), (4, .int (iI ((k4 + 1) + 1))), (9, .int (iI 0)), (8, .int (iI x8)), (6, .double v2), (5, .int (iI ((rrP (wd B f j) (j - f)) - bs (wd B f j) 0))), (3, .int (iI ls)), (0, .ref o), (1, .int (iI f)), (2, .int (iI j))]) [1, 0, 2, 3, 4, 5, 6, 7, 8, 9] rfl ?_
                          exact j274 0 ((k4 + 1) + 1) (by first | omega | (have h8 : (wd B f j) ((rrT (wd B f j) (j - f)) + 1) = -1 := wd_out (by omega); omega)) (by have h9 := bs_C (wd B f j) ((rrT (wd B f j) (j - f)) + 1); first | omega | (have h8 : (wd B f j) ((rrT (wd B f j) (j - f)) + 1) = -1 := wd_out (by omega); omega)) (by have h9 := bs_C (wd B f j) ((rrT (wd B f j) (j - f)) + 1); first | omega | (have h8 : (wd B f j) ((rrT (wd B f j) (j - f)) + 1) = -1 := wd_out (by omega); omega))
                  · refine s_aload_n X dX6_asReal_223 rfl 6 rfl ?_
                    refine s_iload X dX6_asReal_224 0 rfl ?_
                    refine s_callIV X lk_X6_63 [0, 1] [] (wr := []) rfl rfl (by decide) (by decide) (by decide) (c_X6_byteAt (kl K) G o a po xt xi xd yt yi yd th n e dn at9 dp kd wh pl base sg row ror np nw nb ns nrw nir inf9 re nr B (k4 + 1) (by assumption) (by assumption) (by omega)) rfl rfl dX6_asReal_226 rfl rfl (Nat.le_of_ble_eq_true rfl) (by decide) (fun z11 w11 h11 => ?_)
                    obtain ⟨rfl, rfl⟩ := h11
                    show SW K G 13 0 0 229 [(4, .int (iI (k4 + 1))), (9, .int (iI 0)), (8, .int (iI x8)), (6, .double v2), (5, .int (iI ((rrP (wd B f j) (j - f)) - bs (wd B f j) 0))), (3, .int (iI ls)), (0, .ref o), (1, .int (iI f)), (2, .int (iI j))] [.int (iI (bA B n (k4 + 1)))] [oMo o th n a e dn at9 dp po kd wh re pl base sg xt row ror xi xd np nw nr nb ns yt nrw nir yi yd inf9, aB G a 3000 B]
                    have q12 := bA_C n (k4 + 1) (by assumption : ∀ j, B j < 256)
                    have eS : bA B n (k4 + 1) = (wd B f j) ((rrT (wd B f j) (j - f)) + 1) := by rw [wd_bA (i := f) (j := j) (by omega), show k4 + 1 - f = (rrT (wd B f j) (j - f)) + 1 by omega]
                    refine s_bipush 45 X dX6_asReal_229 (by decide) ?_
                    refine s_icmp_ne X 238 dX6_asReal_231 (by decide) (by omega) (fun c231 => ?_) (fun c231 => ?_)
                    · refine s_iconst X dX6_asReal_238 ?_
                      refine s_istore X dX6_asReal_239 [(10, .int (iI 0)), (4, .int (iI (k4 + 1))), (9, .int (iI 0)), (8, .int (iI x8)), (6, .double v2), (5, .int (iI ((rrP (wd B f j) (j - f)) - bs (wd B f j) 0))), (3, .int (iI ls)), (0, .ref o), (1, .int (iI f)), (2, .int (iI j))] (by decide) rfl ?_
                      refine s_iload X dX6_asReal_241 0 rfl ?_
                      refine s_if_ne X 263 dX6_asReal_243 (by decide) (by omega) (fun c243 => ?_) (fun c243 => ?_)
                      · refine s_iload X dX6_asReal_263 1 rfl ?_
                        refine s_iconst X dX6_asReal_265 ?_
                        refine s_iadd X dX6_asReal_266 ?_
                        refine s_goto X 272 dX6_asReal_267 (by decide) ?_
                        refine s_istore X dX6_asReal_272 [(4, .int (iI ((k4 + 1) + 1))), (10, .int (iI 0)), (9, .int (iI 0)), (8, .int (iI x8)), (6, .double v2), (5, .int (iI ((rrP (wd B f j) (j - f)) - bs (wd B f j) 0))), (3, .int (iI ls)), (0, .ref o), (1, .int (iI f)), (2, .int (iI j))] (by decide) rfl ?_
                        refine s_locs (lv' := [(10, .int (iI 0)), (4, .int (iI ((k4 + 1) + 1))), (9, .int (iI 0)), (8, .int (iI x8)), (6, .double v2), (5, .int (iI ((rrP (wd B f j) (j - f)) - bs (wd B f j) 0))), (3, .int (iI ls)), (0, .ref o), (1, .int (iI f)), (2, .int (iI j))]) [1, 0, 2, 3, 4, 5, 6, 7, 8, 9] rfl ?_
                        exact j274 0 ((k4 + 1) + 1) (by first | omega | (have h8 : (wd B f j) ((rrT (wd B f j) (j - f)) + 1) = -1 := wd_out (by omega); omega)) (by have h9 := bs_C (wd B f j) ((rrT (wd B f j) (j - f)) + 1); first | omega | (have h8 : (wd B f j) ((rrT (wd B f j) (j - f)) + 1) = -1 := wd_out (by omega); omega)) (by have h9 := bs_C (wd B f j) ((rrT (wd B f j) (j - f)) + 1); first | omega | (have h8 : (wd B f j) ((rrT (wd B f j) (j - f)) + 1) = -1 := wd_out (by omega); omega))
                      · refine s_iload X dX6_asReal_246 1 rfl ?_
                        refine s_iload_n X dX6_asReal_248 rfl 9 rfl ?_
                        refine s_icmp_ge X 270 dX6_asReal_249 (by decide) (by omega) (fun c249 => ?_) (fun c249 => ?_)
                        · refine s_iload X dX6_asReal_270 1 rfl ?_
                          refine s_istore X dX6_asReal_272 [(4, .int (iI (k4 + 1))), (10, .int (iI 0)), (9, .int (iI 0)), (8, .int (iI x8)), (6, .double v2), (5, .int (iI ((rrP (wd B f j) (j - f)) - bs (wd B f j) 0))), (3, .int (iI ls)), (0, .ref o), (1, .int (iI f)), (2, .int (iI j))] (by decide) rfl ?_
                          refine s_locs (lv' := [(10, .int (iI 0)), (4, .int (iI (k4 + 1))), (9, .int (iI 0)), (8, .int (iI x8)), (6, .double v2), (5, .int (iI ((rrP (wd B f j) (j - f)) - bs (wd B f j) 0))), (3, .int (iI ls)), (0, .ref o), (1, .int (iI f)), (2, .int (iI j))]) [1, 0, 2, 3, 4, 5, 6, 7, 8, 9] rfl ?_
                          exact j274 0 (k4 + 1) (by first | omega | (have h8 : (wd B f j) ((rrT (wd B f j) (j - f)) + 1) = -1 := wd_out (by omega); omega)) (by have h9 := bs_C (wd B f j) ((rrT (wd B f j) (j - f)) + 1); first | omega | (have h8 : (wd B f j) ((rrT (wd B f j) (j - f)) + 1) = -1 := wd_out (by omega); omega)) (by have h9 := bs_C (wd B f j) ((rrT (wd B f j) (j - f)) + 1); first | omega | (have h8 : (wd B f j) ((rrT (wd B f j) (j - f)) + 1) = -1 := wd_out (by omega); omega))
                        · refine s_aload_n X dX6_asReal_252 rfl 7 rfl ?_
                          refine s_iload X dX6_asReal_253 1 rfl ?_
                          refine s_callIV X lk_X6_63 [0, 1] [] (wr := []) rfl rfl (by decide) (by decide) (by decide) (c_X6_byteAt (kl K) G o a po xt xi xd yt yi yd th n e dn at9 dp kd wh pl base sg row ror np nw nb ns nrw nir inf9 re nr B (k4 + 1) (by assumption) (by assumption) (by omega)) rfl rfl dX6_asReal_255 rfl rfl (Nat.le_of_ble_eq_true rfl) (by decide) (fun z13 w13 h13 => ?_)
                          obtain ⟨rfl, rfl⟩ := h13
                          show SW K G 13 0 0 258 [(10, .int (iI 0)), (4, .int (iI (k4 + 1))), (9, .int (iI 0)), (8, .int (iI x8)), (6, .double v2), (5, .int (iI ((rrP (wd B f j) (j - f)) - bs (wd B f j) 0))), (3, .int (iI ls)), (0, .ref o), (1, .int (iI f)), (2, .int (iI j))] [.int (iI (bA B n (k4 + 1)))] [oMo o th n a e dn at9 dp po kd wh re pl base sg xt row ror xi xd np nw nr nb ns yt nrw nir yi yd inf9, aB G a 3000 B]
                          have q14 := bA_C n (k4 + 1) (by assumption : ∀ j, B j < 256)
                          have eS2 : bA B n (k4 + 1) = (wd B f j) ((rrT (wd B f j) (j - f)) + 1) := by rw [wd_bA (i := f) (j := j) (by omega), show k4 + 1 - f = (rrT (wd B f j) (j - f)) + 1 by omega]
                          refine s_bipush 43 X dX6_asReal_258 (by decide) ?_
                          refine s_icmp_ne X 270 dX6_asReal_260 (by decide) (by omega) (fun c260 => ?_) (fun c260 => ?_)
                          · refine s_iload X dX6_asReal_270 1 rfl ?_
                            refine s_istore X dX6_asReal_272 [(4, .int (iI (k4 + 1))), (10, .int (iI 0)), (9, .int (iI 0)), (8, .int (iI x8)), (6, .double v2), (5, .int (iI ((rrP (wd B f j) (j - f)) - bs (wd B f j) 0))), (3, .int (iI ls)), (0, .ref o), (1, .int (iI f)), (2, .int (iI j))] (by decide) rfl ?_
                            refine s_locs (lv' := [(10, .int (iI 0)), (4, .int (iI (k4 + 1))), (9, .int (iI 0)), (8, .int (iI x8)), (6, .double v2), (5, .int (iI ((rrP (wd B f j) (j - f)) - bs (wd B f j) 0))), (3, .int (iI ls)), (0, .ref o), (1, .int (iI f)), (2, .int (iI j))]) [1, 0, 2, 3, 4, 5, 6, 7, 8, 9] rfl ?_
                            exact j274 0 (k4 + 1) (by first | omega | (have h8 : (wd B f j) ((rrT (wd B f j) (j - f)) + 1) = -1 := wd_out (by omega); omega)) (by have h9 := bs_C (wd B f j) ((rrT (wd B f j) (j - f)) + 1); first | omega | (have h8 : (wd B f j) ((rrT (wd B f j) (j - f)) + 1) = -1 := wd_out (by omega); omega)) (by have h9 := bs_C (wd B f j) ((rrT (wd B f j) (j - f)) + 1); first | omega | (have h8 : (wd B f j) ((rrT (wd B f j) (j - f)) + 1) = -1 := wd_out (by omega); omega))
                          · refine s_iload X dX6_asReal_263 1 rfl ?_
                            refine s_iconst X dX6_asReal_265 ?_
                            refine s_iadd X dX6_asReal_266 ?_
                            refine s_goto X 272 dX6_asReal_267 (by decide) ?_
                            refine s_istore X dX6_asReal_272 [(4, .int (iI ((k4 + 1) + 1))), (10, .int (iI 0)), (9, .int (iI 0)), (8, .int (iI x8)), (6, .double v2), (5, .int (iI ((rrP (wd B f j) (j - f)) - bs (wd B f j) 0))), (3, .int (iI ls)), (0, .ref o), (1, .int (iI f)), (2, .int (iI j))] (by decide) rfl ?_
                            refine s_locs (lv' := [(10, .int (iI 0)), (4, .int (iI ((k4 + 1) + 1))), (9, .int (iI 0)), (8, .int (iI x8)), (6, .double v2), (5, .int (iI ((rrP (wd B f j) (j - f)) - bs (wd B f j) 0))), (3, .int (iI ls)), (0, .ref o), (1, .int (iI f)), (2, .int (iI j))]) [1, 0, 2, 3, 4, 5, 6, 7, 8, 9] rfl ?_
                            exact j274 0 ((k4 + 1) + 1) (by first | omega | (have h8 : (wd B f j) ((rrT (wd B f j) (j - f)) + 1) = -1 := wd_out (by omega); omega)) (by have h9 := bs_C (wd B f j) ((rrT (wd B f j) (j - f)) + 1); first | omega | (have h8 : (wd B f j) ((rrT (wd B f j) (j - f)) + 1) = -1 := wd_out (by omega); omega)) (by have h9 := bs_C (wd B f j) ((rrT (wd B f j) (j - f)) + 1); first | omega | (have h8 : (wd B f j) ((rrT (wd B f j) (j - f)) + 1) = -1 := wd_out (by omega); omega))
                    · refine s_iconst X dX6_asReal_234 ?_
                      refine s_goto X 239 dX6_asReal_235 (by decide) ?_
                      refine s_istore X dX6_asReal_239 [(10, .int (iI 1)), (4, .int (iI (k4 + 1))), (9, .int (iI 0)), (8, .int (iI x8)), (6, .double v2), (5, .int (iI ((rrP (wd B f j) (j - f)) - bs (wd B f j) 0))), (3, .int (iI ls)), (0, .ref o), (1, .int (iI f)), (2, .int (iI j))] (by decide) rfl ?_
                      refine s_iload X dX6_asReal_241 0 rfl ?_
                      refine s_if_ne X 263 dX6_asReal_243 (by decide) (by omega) (fun c243 => ?_) (fun c243 => ?_)
                      · refine s_iload X dX6_asReal_263 1 rfl ?_
                        refine s_iconst X dX6_asReal_265 ?_
                        refine s_iadd X dX6_asReal_266 ?_
                        refine s_goto X 272 dX6_asReal_267 (by decide) ?_
                        refine s_istore X dX6_asReal_272 [(4, .int (iI ((k4 + 1) + 1))), (10, .int (iI 1)), (9, .int (iI 0)), (8, .int (iI x8)), (6, .double v2), (5, .int (iI ((rrP (wd B f j) (j - f)) - bs (wd B f j) 0))), (3, .int (iI ls)), (0, .ref o), (1, .int (iI f)), (2, .int (iI j))] (by decide) rfl ?_
                        refine s_locs (lv' := [(10, .int (iI 1)), (4, .int (iI ((k4 + 1) + 1))), (9, .int (iI 0)), (8, .int (iI x8)), (6, .double v2), (5, .int (iI ((rrP (wd B f j) (j - f)) - bs (wd B f j) 0))), (3, .int (iI ls)), (0, .ref o), (1, .int (iI f)), (2, .int (iI j))]) [1, 0, 2, 3, 4, 5, 6, 7, 8, 9] rfl ?_
                        exact j274 1 ((k4 + 1) + 1) (by first | omega | (have h8 : (wd B f j) ((rrT (wd B f j) (j - f)) + 1) = -1 := wd_out (by omega); omega)) (by have h9 := bs_C (wd B f j) ((rrT (wd B f j) (j - f)) + 1); first | omega | (have h8 : (wd B f j) ((rrT (wd B f j) (j - f)) + 1) = -1 := wd_out (by omega); omega)) (by have h9 := bs_C (wd B f j) ((rrT (wd B f j) (j - f)) + 1); first | omega | (have h8 : (wd B f j) ((rrT (wd B f j) (j - f)) + 1) = -1 := wd_out (by omega); omega))
                      · refine s_iload X dX6_asReal_246 1 rfl ?_
                        refine s_iload_n X dX6_asReal_248 rfl 9 rfl ?_
                        refine s_icmp_ge X 270 dX6_asReal_249 (by decide) (by omega) (fun c249 => ?_) (fun c249 => ?_)
                        · refine s_iload X dX6_asReal_270 1 rfl ?_
                          refine s_istore X dX6_asReal_272 [(4, .int (iI (k4 + 1))), (10, .int (iI 1)), (9, .int (iI 0)), (8, .int (iI x8)), (6, .double v2), (5, .int (iI ((rrP (wd B f j) (j - f)) - bs (wd B f j) 0))), (3, .int (iI ls)), (0, .ref o), (1, .int (iI f)), (2, .int (iI j))] (by decide) rfl ?_
                          refine s_locs (lv' := [(10, .int (iI 1)), (4, .int (iI (k4 + 1))), (9, .int (iI 0)), (8, .int (iI x8)), (6, .double v2), (5, .int (iI ((rrP (wd B f j) (j - f)) - bs (wd B f j) 0))), (3, .int (iI ls)), (0, .ref o), (1, .int (iI f)), (2, .int (iI j))]) [1, 0, 2, 3, 4, 5, 6, 7, 8, 9] rfl ?_
                          exact j274 1 (k4 + 1) (by first | omega | (have h8 : (wd B f j) ((rrT (wd B f j) (j - f)) + 1) = -1 := wd_out (by omega); omega)) (by have h9 := bs_C (wd B f j) ((rrT (wd B f j) (j - f)) + 1); first | omega | (have h8 : (wd B f j) ((rrT (wd B f j) (j - f)) + 1) = -1 := wd_out (by omega); omega)) (by have h9 := bs_C (wd B f j) ((rrT (wd B f j) (j - f)) + 1); first | omega | (have h8 : (wd B f j) ((rrT (wd B f j) (j - f)) + 1) = -1 := wd_out (by omega); omega))
                        · refine s_aload_n X dX6_asReal_252 rfl 7 rfl ?_
                          refine s_iload X dX6_asReal_253 1 rfl ?_
                          refine s_callIV X lk_X6_63 [0, 1] [] (wr := []) rfl rfl (by decide) (by decide) (by decide) (c_X6_byteAt (kl K) G o a po xt xi xd yt yi yd th n e dn at9 dp kd wh pl base sg row ror np nw nb ns nrw nir inf9 re nr B (k4 + 1) (by assumption) (by assumption) (by omega)) rfl rfl dX6_asReal_255 rfl rfl (Nat.le_of_ble_eq_true rfl) (by decide) (fun z15 w15 h15 => ?_)
                          obtain ⟨rfl, rfl⟩ := h15
                          show SW K G 13 0 0 258 [(10, .int (iI 1)), (4, .int (iI (k4 + 1))), (9, .int (iI 0)), (8, .int (iI x8)), (6, .double v2), (5, .int (iI ((rrP (wd B f j) (j - f)) - bs (wd B f j) 0))), (3, .int (iI ls)), (0, .ref o), (1, .int (iI f)), (2, .int (iI j))] [.int (iI (bA B n (k4 + 1)))] [oMo o th n a e dn at9 dp po kd wh re pl base sg xt row ror xi xd np nw nr nb ns yt nrw nir yi yd inf9, aB G a 3000 B]
                          have q16 := bA_C n (k4 + 1) (by assumption : ∀ j, B j < 256)
                          have eS2 : bA B n (k4 + 1) = (wd B f j) ((rrT (wd B f j) (j - f)) + 1) := by rw [wd_bA (i := f) (j := j) (by omega), show k4 + 1 - f = (rrT (wd B f j) (j - f)) + 1 by omega]
                          refine s_bipush 43 X dX6_asReal_258 (by decide) ?_
                          refine s_icmp_ne X 270 dX6_asReal_260 (by decide) (by omega) (fun c260 => ?_) (fun c260 => ?_)
                          · refine s_iload X dX6_asReal_270 1 rfl ?_
                            refine s_istore X dX6_asReal_272 [(4, .int (iI (k4 + 1))), (10, .int (iI 1)), (9, .int (iI 0)), (8, .int (iI x8)), (6, .double v2), (5, .int (iI ((rrP (wd B f j) (j - f)) - bs (wd B f j) 0))), (3, .int (iI ls)), (0, .ref o), (1, .int (iI f)), (2, .int (iI j))] (by decide) rfl ?_
                            refine s_locs (lv' := [(10, .int (iI 1)), (4, .int (iI (k4 + 1))), (9, .int (iI 0)), (8, .int (iI x8)), (6, .double v2), (5, .int (iI ((rrP (wd B f j) (j - f)) - bs (wd B f j) 0))), (3, .int (iI ls)), (0, .ref o), (1, .int (iI f)), (2, .int (iI j))]) [1, 0, 2, 3, 4, 5, 6, 7, 8, 9] rfl ?_
                            exact j274 1 (k4 + 1) (by first | omega | (have h8 : (wd B f j) ((rrT (wd B f j) (j - f)) + 1) = -1 := wd_out (by omega); omega)) (by have h9 := bs_C (wd B f j) ((rrT (wd B f j) (j - f)) + 1); first | omega | (have h8 : (wd B f j) ((rrT (wd B f j) (j - f)) + 1) = -1 := wd_out (by omega); omega)) (by have h9 := bs_C (wd B f j) ((rrT (wd B f j) (j - f)) + 1); first | omega | (have h8 : (wd B f j) ((rrT (wd B f j) (j - f)) + 1) = -1 := wd_out (by omega); omega))
                          · refine s_iload X dX6_asReal_263 1 rfl ?_
                            refine s_iconst X dX6_asReal_265 ?_
                            refine s_iadd X dX6_asReal_266 ?_
                            refine s_goto X 272 dX6_asReal_267 (by decide) ?_
                            refine s_istore X dX6_asReal_272 [(4, .int (iI ((k4 + 1) + 1))), (10, .int (iI 1)), (9, .int (iI 0)), (8, .int (iI x8)), (6, .double v2), (5, .int (iI ((rrP (wd B f j) (j - f)) - bs (wd B f j) 0))), (3, .int (iI ls)), (0, .ref o), (1, .int (iI f)), (2, .int (iI j))] (by decide) rfl ?_
                            refine s_locs (lv' := [(10, .int (iI 1)), (4, .int (iI ((k4 + 1) + 1))), (9, .int (iI 0)), (8, .int (iI x8)), (6, .double v2), (5, .int (iI ((rrP (wd B f j) (j - f)) - bs (wd B f j) 0))), (3, .int (iI ls)), (0, .ref o), (1, .int (iI f)), (2, .int (iI j))]) [1, 0, 2, 3, 4, 5, 6, 7, 8, 9] rfl ?_
                            exact j274 1 ((k4 + 1) + 1) (by first | omega | (have h8 : (wd B f j) ((rrT (wd B f j) (j - f)) + 1) = -1 := wd_out (by omega); omega)) (by have h9 := bs_C (wd B f j) ((rrT (wd B f j) (j - f)) + 1); first | omega | (have h8 : (wd B f j) ((rrT (wd B f j) (j - f)) + 1) = -1 := wd_out (by omega); omega)) (by have h9 := bs_C (wd B f j) ((rrT (wd B f j) (j - f)) + 1); first | omega | (have h8 : (wd B f j) ((rrT (wd B f j) (j - f)) + 1) = -1 := wd_out (by omega); omega))
                refine s_aload_n X dX6_asReal_192 rfl 6 rfl ?_
                refine s_iload X dX6_asReal_193 1 rfl ?_
                refine s_callIV X lk_X6_63 [0, 1] [] (wr := []) rfl rfl (by decide) (by decide) (by decide) (c_X6_byteAt (kl K) G o a po xt xi xd yt yi yd th n e dn at9 dp kd wh pl base sg row ror np nw nb ns nrw nir inf9 re nr B k4 (by assumption) (by assumption) (by omega)) rfl rfl dX6_asReal_195 rfl rfl (Nat.le_of_ble_eq_true rfl) (by decide) (fun z17 w17 h17 => ?_)
                obtain ⟨rfl, rfl⟩ := h17
                show SW K G 13 0 0 198 [(9, .int (iI 0)), (4, .int (iI k4)), (8, .int (iI x8)), (6, .double v2), (5, .int (iI ((rrP (wd B f j) (j - f)) - bs (wd B f j) 0))), (3, .int (iI ls)), (0, .ref o), (1, .int (iI f)), (2, .int (iI j))] [.int (iI (bA B n k4))] [oMo o th n a e dn at9 dp po kd wh re pl base sg xt row ror xi xd np nw nr nb ns yt nrw nir yi yd inf9, aB G a 3000 B]
                have q18 := bA_C n k4 (by assumption : ∀ j, B j < 256)
                have eE : bA B n k4 = (wd B f j) (rrT (wd B f j) (j - f)) := by rw [wd_bA (i := f) (j := j) (by omega), show k4 - f = (rrT (wd B f j) (j - f)) by omega]
                refine s_bipush 101 X dX6_asReal_198 (by decide) ?_
                refine s_icmp_eq X 214 dX6_asReal_200 (by decide) (by omega) (fun c200 => ?_) (fun c200 => ?_)
                · exact j214  (by omega)
                · refine s_aload_n X dX6_asReal_203 rfl 6 rfl ?_
                  refine s_iload X dX6_asReal_204 1 rfl ?_
                  refine s_callIV X lk_X6_63 [0, 1] [] (wr := []) rfl rfl (by decide) (by decide) (by decide) (c_X6_byteAt (kl K) G o a po xt xi xd yt yi yd th n e dn at9 dp kd wh pl base sg row ror np nw nb ns nrw nir inf9 re nr B k4 (by assumption) (by assumption) (by omega)) rfl rfl dX6_asReal_206 rfl rfl (Nat.le_of_ble_eq_true rfl) (by decide) (fun z19 w19 h19 => ?_)
                  obtain ⟨rfl, rfl⟩ := h19
                  show SW K G 13 0 0 209 [(9, .int (iI 0)), (4, .int (iI k4)), (8, .int (iI x8)), (6, .double v2), (5, .int (iI ((rrP (wd B f j) (j - f)) - bs (wd B f j) 0))), (3, .int (iI ls)), (0, .ref o), (1, .int (iI f)), (2, .int (iI j))] [.int (iI (bA B n k4))] [oMo o th n a e dn at9 dp po kd wh re pl base sg xt row ror xi xd np nw nr nb ns yt nrw nir yi yd inf9, aB G a 3000 B]
                  have q20 := bA_C n k4 (by assumption : ∀ j, B j < 256)
                  have eE2 : bA B n k4 = (wd B f j) (rrT (wd B f j) (j - f)) := by rw [wd_bA (i := f) (j := j) (by omega), show k4 - f = (rrT (wd B f j) (j - f)) by omega]
                  refine s_bipush 69 X dX6_asReal_209 (by decide) ?_
                  refine s_icmp_ne X 355 dX6_asReal_211 (by decide) (by omega) (fun c211 => ?_) (fun c211 => ?_)
                  · refine s_iload X dX6_asReal_355 1 rfl ?_
                    refine s_iload_n X dX6_asReal_357 rfl 8 rfl ?_
                    refine s_icmp_eq X 363 dX6_asReal_358 (by decide) (by omega) (fun c358 => ?_) (fun c358 => ?_)
                    · refine s_locs (lv' := [(9, .int (iI 0)), (8, .int (iI x8)), (6, .double v2), (3, .int (iI ls)), (0, .ref o), (1, .int (iI f)), (2, .int (iI j))]) [0, 2, 3, 5, 6, 7, 8] rfl ?_
                      exact j363 0 (by first | exact ⟨by omega, fun h => by omega⟩ | exact ⟨by omega, fun _ => ⟨hE, by omega, by omega, by omega⟩⟩) (by unfold rrE; first | (rw [if_neg (by omega)]; done) | (rw [if_pos (by omega)]; have hq9 : (de (wd B f j) (j - f) 10 (bs (wd B f j) (rrT (wd B f j) (j - f) + 1))) = (j - f) := (by omega); rw [hq9] at hv9; have hX := exv_C (wd B f j) (j - f) (rrT (wd B f j) (j - f)); omega))
                    · refine s_iconst X dX6_asReal_361 ?_
                      refine s_iret X Y dX6_asReal_362 (rfl) ?_
                      refine ⟨nr, ?_, rfl, ?_⟩
                      · (first | (exfalso; omega) | (refine (if_pos (show rrA (wd B f j) (j - f) = 3 from if_neg (fun h => ?_))).symm; obtain ⟨a1, a2, a3, a4⟩ := h.2 (by omega); omega))
                      · (first | (exfalso; omega) | (intro h; exact absurd h (by decide)))
                  · exact j214  (by omega)
            · refine s_iconst X dX6_asReal_181 ?_
              refine s_iret X Y dX6_asReal_182 (rfl) ?_
              refine ⟨nr, ?_, rfl, ?_⟩
              · (first | (exfalso; omega) | (refine (if_pos (show rrA (wd B f j) (j - f) = 3 from if_neg (fun h => ?_))).symm; have h9 := h.1; omega))
              · (first | (exfalso; omega) | (intro h; exact absurd h (by decide)))
          refine s_iload X dX6_asReal_99 1 rfl ?_
          refine s_iload_n X dX6_asReal_101 rfl 7 rfl ?_
          refine s_icmp_ge X 173 dX6_asReal_102 (by decide) (by omega) (fun c102 => ?_) (fun c102 => ?_)
          · refine s_locs (lv' := [(4, .int (iI (f + (rrP (wd B f j) (j - f))))), (8, .int (iI 0)), (6, .double v), (5, .int (iI ((rrP (wd B f j) (j - f)) - bs (wd B f j) 0))), (3, .int (iI ls)), (0, .ref o), (1, .int (iI f)), (2, .int (iI j))]) [1, 0, 2, 3, 4, 5, 6, 7] rfl ?_
            exact j173 (f + (rrP (wd B f j) (j - f))) 0 v (by omega) (h3) (by first | (rw [← h2, dr_out (by omega)]; done))
          · refine s_aload_n X dX6_asReal_105 rfl 5 rfl ?_
            refine s_iload X dX6_asReal_106 1 rfl ?_
            refine s_callIV X lk_X6_63 [0, 1] [] (wr := []) rfl rfl (by decide) (by decide) (by decide) (c_X6_byteAt (kl K) G o a po xt xi xd yt yi yd th n e dn at9 dp kd wh pl base sg row ror np nw nb ns nrw nir inf9 re nr B (f + (rrP (wd B f j) (j - f))) (by assumption) (by assumption) (by omega)) rfl rfl dX6_asReal_108 rfl rfl (Nat.le_of_ble_eq_true rfl) (by decide) (fun z21 w21 h21 => ?_)
            obtain ⟨rfl, rfl⟩ := h21
            show SW K G 13 0 0 111 [(8, .int (iI 0)), (4, .int (iI (f + (rrP (wd B f j) (j - f))))), (6, .double v), (5, .int (iI ((rrP (wd B f j) (j - f)) - bs (wd B f j) 0))), (3, .int (iI ls)), (0, .ref o), (1, .int (iI f)), (2, .int (iI j))] [.int (iI (bA B n (f + (rrP (wd B f j) (j - f)))))] [oMo o th n a e dn at9 dp po kd wh re pl base sg xt row ror xi xd np nw nr nb ns yt nrw nir yi yd inf9, aB G a 3000 B]
            have q22 := bA_C n (f + (rrP (wd B f j) (j - f))) (by assumption : ∀ j, B j < 256)
            have e46 : bA B n (f + (rrP (wd B f j) (j - f))) = (wd B f j) (rrP (wd B f j) (j - f)) := by rw [wd_bA (i := f) (j := j) (by omega), show f + (rrP (wd B f j) (j - f)) - f = (rrP (wd B f j) (j - f)) by omega]
            refine s_bipush 46 X dX6_asReal_111 (by decide) ?_
            refine s_icmp_ne X 173 dX6_asReal_113 (by decide) (by omega) (fun c113 => ?_) (fun c113 => ?_)
            · refine s_locs (lv' := [(4, .int (iI (f + (rrP (wd B f j) (j - f))))), (8, .int (iI 0)), (6, .double v), (5, .int (iI ((rrP (wd B f j) (j - f)) - bs (wd B f j) 0))), (3, .int (iI ls)), (0, .ref o), (1, .int (iI f)), (2, .int (iI j))]) [1, 0, 2, 3, 4, 5, 6, 7] rfl ?_
              exact j173 (f + (rrP (wd B f j) (j - f))) 0 v (by omega) (h3) (by first | (rw [← h2, dr_out (by omega)]; done))
            · refine s_iinc (z := (f + (rrP (wd B f j) (j - f))) + 1) X dX6_asReal_116 1 rfl (by first | rfl | omega) [(4, .int (iI ((f + (rrP (wd B f j) (j - f))) + 1))), (8, .int (iI 0)), (6, .double v), (5, .int (iI ((rrP (wd B f j) (j - f)) - bs (wd B f j) 0))), (3, .int (iI ls)), (0, .ref o), (1, .int (iI f)), (2, .int (iI j))] (by decide) rfl ?_
              refine s_aload_n X dX6_asReal_119 rfl 5 rfl ?_
              refine s_iload X dX6_asReal_120 0 rfl ?_
              refine s_iload_n X dX6_asReal_122 rfl 7 rfl ?_
              have hT1 : (rrT (wd B f j) (j - f)) = de (wd B f j) (j - f) 10 ((rrP (wd B f j) (j - f)) + 1) ∧ (rrP (wd B f j) (j - f)) + 1 ≤ (rrT (wd B f j) (j - f)) ∧ (rrT (wd B f j) (j - f)) ≤ (j - f) ∧ (rrD (wd B f j) (j - f)) = (rrT (wd B f j) (j - f)) - (rrP (wd B f j) (j - f)) - 1 := by omega
              have hdT : ∀ x, (rrP (wd B f j) (j - f)) + 1 ≤ x → x < (rrT (wd B f j) (j - f)) → x < (j - f) → dg ((wd B f j) x) < 10 := by rw [hT1.1]; exact de_lt (w := (wd B f j)) (len := (j - f)) (base := 10) _ _ rfl
              refine s_callIV X lk_X6_67 [0, 1] [] (wr := []) rfl rfl (by decide) (by decide) (by decide) (c_X6_digitsFrom (kl K) G o a po xt xi xd yt yi yd th n e dn at9 dp kd wh pl base sg row ror np nw nb ns nrw nir inf9 re nr B f ((f + (rrP (wd B f j) (j - f))) + 1) j (by assumption) (by assumption) (by omega)) rfl rfl dX6_asReal_123 rfl rfl (Nat.le_of_ble_eq_true rfl) (by decide) (fun z23 w23 h23 => ?_)
              obtain ⟨rfl, rfl⟩ := h23
              show SW K G 13 0 0 126 [(4, .int (iI ((f + (rrP (wd B f j) (j - f))) + 1))), (8, .int (iI 0)), (6, .double v), (5, .int (iI ((rrP (wd B f j) (j - f)) - bs (wd B f j) 0))), (3, .int (iI ls)), (0, .ref o), (1, .int (iI f)), (2, .int (iI j))] [.int (iI (de (wd B f j) (j - f) 10 (((f + (rrP (wd B f j) (j - f))) + 1) - f) - (((f + (rrP (wd B f j) (j - f))) + 1) - f)))] [oMo o th n a e dn at9 dp po kd wh re pl base sg xt row ror xi xd np nw nr nb ns yt nrw nir yi yd inf9, aB G a 3000 B]
              have q24 := de_C (wd B f j) (j - f) 10 (((f + (rrP (wd B f j) (j - f))) + 1) - f)
              refine s_cast (st' := [.int (iI (rrD (wd B f j) (j - f)))]) (by rw [show f + (rrP (wd B f j) (j - f)) + 1 - f = (rrP (wd B f j) (j - f)) + 1 by omega, ← hT1.1, show (rrT (wd B f j) (j - f)) - ((rrP (wd B f j) (j - f)) + 1) = (rrD (wd B f j) (j - f)) by omega]) rfl rfl ?_
              refine s_istore X dX6_asReal_126 [(8, .int (iI (rrD (wd B f j) (j - f)))), (4, .int (iI ((f + (rrP (wd B f j) (j - f))) + 1))), (6, .double v), (5, .int (iI ((rrP (wd B f j) (j - f)) - bs (wd B f j) 0))), (3, .int (iI ls)), (0, .ref o), (1, .int (iI f)), (2, .int (iI j))] (by decide) rfl ?_
              refine s_iconst X dX6_asReal_128 ?_
              refine s_istore X dX6_asReal_129 [(9, .int (iI 0)), (8, .int (iI (rrD (wd B f j) (j - f)))), (4, .int (iI ((f + (rrP (wd B f j) (j - f))) + 1))), (6, .double v), (5, .int (iI ((rrP (wd B f j) (j - f)) - bs (wd B f j) 0))), (3, .int (iI ls)), (0, .ref o), (1, .int (iI f)), (2, .int (iI j))] (by decide) rfl ?_
              have lp2 : ∀ (m9 : Nat) (v : UInt64) (x : Int) (h1 : 0 ≤ x ∧ x ≤ (rrD (wd B f j) (j - f))) (h3 : NN v) (h2 : dr (wd B f j) ((rrP (wd B f j) (j - f)) + 1 + x) (rrT (wd B f j) (j - f)) v = (dr (wd B f j) (bs (wd B f j) 0) (rrT (wd B f j) (j - f)) FP.dconst0)), ((rrD (wd B f j) (j - f)) - x).toNat < m9 → SW K G 13 0 0 131 [(6, .double v), (9, .int (iI x)), (8, .int (iI (rrD (wd B f j) (j - f)))), (4, .int (iI ((f + (rrP (wd B f j) (j - f))) + 1))), (5, .int (iI ((rrP (wd B f j) (j - f)) - bs (wd B f j) 0))), (3, .int (iI ls)), (0, .ref o), (1, .int (iI f)), (2, .int (iI j))] [] [oMo o th n a e dn at9 dp po kd wh re pl base sg xt row ror xi xd np nw nr nb ns yt nrw nir yi yd inf9, aB G a 3000 B] := by
                intro m9
                induction m9 with
                | zero => intro v x h1 h3 h2 hm9; exact absurd hm9 (Nat.not_lt_zero _)
                | succ m9 ih9 =>
                  intro v x h1 h3 h2 hm9
                  refine s_iload X dX6_asReal_131 1 rfl ?_
                  refine s_iload X dX6_asReal_133 2 rfl ?_
                  refine s_icmp_ge X 166 dX6_asReal_135 (by decide) (by omega) (fun c135 => ?_) (fun c135 => ?_)
                  · refine s_iload X dX6_asReal_166 3 rfl ?_
                    refine s_iload X dX6_asReal_168 2 rfl ?_
                    refine s_iadd X dX6_asReal_170 ?_
                    refine s_istore X dX6_asReal_171 [(4, .int (iI (((f + (rrP (wd B f j) (j - f))) + 1) + (rrD (wd B f j) (j - f))))), (6, .double v), (9, .int (iI x)), (8, .int (iI (rrD (wd B f j) (j - f)))), (5, .int (iI ((rrP (wd B f j) (j - f)) - bs (wd B f j) 0))), (3, .int (iI ls)), (0, .ref o), (1, .int (iI f)), (2, .int (iI j))] (by decide) rfl ?_
                    refine s_locs (lv' := [(4, .int (iI (((f + (rrP (wd B f j) (j - f))) + 1) + (rrD (wd B f j) (j - f))))), (8, .int (iI (rrD (wd B f j) (j - f)))), (6, .double v), (5, .int (iI ((rrP (wd B f j) (j - f)) - bs (wd B f j) 0))), (3, .int (iI ls)), (0, .ref o), (1, .int (iI f)), (2, .int (iI j))]) [0, 3, 1, 4, 5, 6, 7, 8] rfl ?_
                    exact j173 (((f + (rrP (wd B f j) (j - f))) + 1) + (rrD (wd B f j) (j - f))) (rrD (wd B f j) (j - f)) v (by omega) (h3) (by first | (rw [← h2, dr_out (by omega)]; done))
                  · refine s_dload X dX6_asReal_138 0 rfl ?_
                    refine s_ldc2d X dX6_asReal_140 tg881 ?_
                    refine s_dmul X dX6_asReal_143 ((NN_mul h3).1) ?_
                    refine s_aload_n X dX6_asReal_144 rfl 6 rfl ?_
                    refine s_iload X dX6_asReal_145 3 rfl ?_
                    refine s_iload X dX6_asReal_147 1 rfl ?_
                    refine s_iadd X dX6_asReal_149 ?_
                    refine s_callIV X lk_X6_63 [0, 1] [] (wr := []) rfl rfl (by decide) (by decide) (by decide) (c_X6_byteAt (kl K) G o a po xt xi xd yt yi yd th n e dn at9 dp kd wh pl base sg row ror np nw nb ns nrw nir inf9 re nr B (((f + (rrP (wd B f j) (j - f))) + 1) + x) (by assumption) (by assumption) (by omega)) rfl rfl dX6_asReal_150 rfl rfl (Nat.le_of_ble_eq_true rfl) (by decide) (fun z25 w25 h25 => ?_)
                    obtain ⟨rfl, rfl⟩ := h25
                    show SW K G 13 0 0 153 [(6, .double v), (9, .int (iI x)), (8, .int (iI (rrD (wd B f j) (j - f)))), (4, .int (iI ((f + (rrP (wd B f j) (j - f))) + 1))), (5, .int (iI ((rrP (wd B f j) (j - f)) - bs (wd B f j) 0))), (3, .int (iI ls)), (0, .ref o), (1, .int (iI f)), (2, .int (iI j))] [.int (iI (bA B n (((f + (rrP (wd B f j) (j - f))) + 1) + x))), .double (FP.dmul v 4621819117588971520)] [oMo o th n a e dn at9 dp po kd wh re pl base sg xt row ror xi xd np nw nr nb ns yt nrw nir yi yd inf9, aB G a 3000 B]
                    have q26 := bA_C n (((f + (rrP (wd B f j) (j - f))) + 1) + x) (by assumption : ∀ j, B j < 256)
                    have e9 : bA B n (f + (rrP (wd B f j) (j - f)) + 1 + x) = (wd B f j) ((rrP (wd B f j) (j - f)) + 1 + x) := by rw [wd_bA (i := f) (j := j) (by omega), show f + (rrP (wd B f j) (j - f)) + 1 + x - f = (rrP (wd B f j) (j - f)) + 1 + x by omega]
                    have d8 := dg_C ((wd B f j) ((rrP (wd B f j) (j - f)) + 1 + x))
                    have d7 : dg ((wd B f j) ((rrP (wd B f j) (j - f)) + 1 + x)) < 10 := hdT _ (by omega) (by omega) (by omega)
                    refine s_bipush 48 X dX6_asReal_153 (by decide) ?_
                    refine s_isub X dX6_asReal_155 ?_
                    refine s_i2d X dX6_asReal_156 ?_
                    refine s_dadd X dX6_asReal_157 ((NN_add (NN_mul h3).2 (by omega)).1) ?_
                    refine s_dstore X dX6_asReal_158 [(6, .double (FP.dadd (FP.dmul v 4621819117588971520) (FP.i2d (iI ((bA B n (((f + (rrP (wd B f j) (j - f))) + 1) + x)) - 48))))), (9, .int (iI x)), (8, .int (iI (rrD (wd B f j) (j - f)))), (4, .int (iI ((f + (rrP (wd B f j) (j - f))) + 1))), (5, .int (iI ((rrP (wd B f j) (j - f)) - bs (wd B f j) 0))), (3, .int (iI ls)), (0, .ref o), (1, .int (iI f)), (2, .int (iI j))] (by decide) rfl ?_
                    refine s_iinc (z := x + 1) X dX6_asReal_160 1 rfl (by first | rfl | omega) [(9, .int (iI (x + 1))), (6, .double (FP.dadd (FP.dmul v 4621819117588971520) (FP.i2d (iI ((bA B n (((f + (rrP (wd B f j) (j - f))) + 1) + x)) - 48))))), (8, .int (iI (rrD (wd B f j) (j - f)))), (4, .int (iI ((f + (rrP (wd B f j) (j - f))) + 1))), (5, .int (iI ((rrP (wd B f j) (j - f)) - bs (wd B f j) 0))), (3, .int (iI ls)), (0, .ref o), (1, .int (iI f)), (2, .int (iI j))] (by decide) rfl ?_
                    refine s_goto X 131 dX6_asReal_163 (by decide) ?_
                    refine s_locs (lv' := [(6, .double (FP.dadd (FP.dmul v 4621819117588971520) (FP.i2d (iI ((bA B n (((f + (rrP (wd B f j) (j - f))) + 1) + x)) - 48))))), (9, .int (iI (x + 1))), (8, .int (iI (rrD (wd B f j) (j - f)))), (4, .int (iI ((f + (rrP (wd B f j) (j - f))) + 1))), (5, .int (iI ((rrP (wd B f j) (j - f)) - bs (wd B f j) 0))), (3, .int (iI ls)), (0, .ref o), (1, .int (iI f)), (2, .int (iI j))]) [1, 0, 2, 3, 4, 5, 6, 7, 8] rfl ?_
                    exact ih9 (FP.dadd (FP.dmul v 4621819117588971520) (FP.i2d (iI ((bA B n (((f + (rrP (wd B f j) (j - f))) + 1) + x)) - 48)))) (x + 1) (by omega) ((NN_add (NN_mul h3).2 (by omega)).2) (by rw [← h2, dr_s (i := (rrP (wd B f j) (j - f)) + 1 + x) (by omega), if_neg (by omega), show dg ((wd B f j) ((rrP (wd B f j) (j - f)) + 1 + x)) = bA B n (f + (rrP (wd B f j) (j - f)) + 1 + x) - 48 by omega, show (rrP (wd B f j) (j - f)) + 1 + (x + 1) = (rrP (wd B f j) (j - f)) + 1 + x + 1 by omega]) (by omega)
              refine s_locs (lv' := [(6, .double v), (9, .int (iI 0)), (8, .int (iI (rrD (wd B f j) (j - f)))), (4, .int (iI ((f + (rrP (wd B f j) (j - f))) + 1))), (5, .int (iI ((rrP (wd B f j) (j - f)) - bs (wd B f j) 0))), (3, .int (iI ls)), (0, .ref o), (1, .int (iI f)), (2, .int (iI j))]) [3, 0, 1, 2, 4, 5, 6, 7, 8] rfl ?_
              exact lp2 _ v 0 (by omega) (h3) (by rw [Int.add_zero, ← h2, show bs (wd B f j) 0 + x = (rrP (wd B f j) (j - f)) by omega, dr_s (i := (rrP (wd B f j) (j - f))) (by omega), if_pos (by omega)]) (Nat.lt_succ_self _)
        · refine s_dload X dX6_asReal_61 0 rfl ?_
          refine s_ldc2d X dX6_asReal_63 tg881 ?_
          refine s_dmul X dX6_asReal_66 ((NN_mul h3).1) ?_
          refine s_aload_n X dX6_asReal_67 rfl 5 rfl ?_
          refine s_iload X dX6_asReal_68 4 rfl ?_
          refine s_iload X dX6_asReal_70 1 rfl ?_
          refine s_iadd X dX6_asReal_72 ?_
          refine s_callIV X lk_X6_63 [0, 1] [] (wr := []) rfl rfl (by decide) (by decide) (by decide) (c_X6_byteAt (kl K) G o a po xt xi xd yt yi yd th n e dn at9 dp kd wh pl base sg row ror np nw nb ns nrw nir inf9 re nr B (k + x) (by assumption) (by assumption) (by omega)) rfl rfl dX6_asReal_73 rfl rfl (Nat.le_of_ble_eq_true rfl) (by decide) (fun z27 w27 h27 => ?_)
          obtain ⟨rfl, rfl⟩ := h27
          show SW K G 13 0 0 76 [(6, .double v), (8, .int (iI x)), (5, .int (iI ((rrP (wd B f j) (j - f)) - bs (wd B f j) 0))), (3, .int (iI ls)), (4, .int (iI k)), (0, .ref o), (1, .int (iI f)), (2, .int (iI j))] [.int (iI (bA B n (k + x))), .double (FP.dmul v 4621819117588971520)] [oMo o th n a e dn at9 dp po kd wh re pl base sg xt row ror xi xd np nw nr nb ns yt nrw nir yi yd inf9, aB G a 3000 B]
          have q28 := bA_C n (k + x) (by assumption : ∀ j, B j < 256)
          have e9 : bA B n (k + x) = (wd B f j) (bs (wd B f j) 0 + x) := by rw [wd_bA (i := f) (j := j) (by omega), show k + x - f = bs (wd B f j) 0 + x by omega]
          have d8 := dg_C ((wd B f j) (bs (wd B f j) 0 + x))
          have d7 : dg ((wd B f j) (bs (wd B f j) 0 + x)) < 10 := hdP _ (by omega) (by omega) (by omega)
          refine s_bipush 48 X dX6_asReal_76 (by decide) ?_
          refine s_isub X dX6_asReal_78 ?_
          refine s_i2d X dX6_asReal_79 ?_
          refine s_dadd X dX6_asReal_80 ((NN_add (NN_mul h3).2 (by omega)).1) ?_
          refine s_dstore X dX6_asReal_81 [(6, .double (FP.dadd (FP.dmul v 4621819117588971520) (FP.i2d (iI ((bA B n (k + x)) - 48))))), (8, .int (iI x)), (5, .int (iI ((rrP (wd B f j) (j - f)) - bs (wd B f j) 0))), (3, .int (iI ls)), (4, .int (iI k)), (0, .ref o), (1, .int (iI f)), (2, .int (iI j))] (by decide) rfl ?_
          refine s_iinc (z := x + 1) X dX6_asReal_83 1 rfl (by first | rfl | omega) [(8, .int (iI (x + 1))), (6, .double (FP.dadd (FP.dmul v 4621819117588971520) (FP.i2d (iI ((bA B n (k + x)) - 48))))), (5, .int (iI ((rrP (wd B f j) (j - f)) - bs (wd B f j) 0))), (3, .int (iI ls)), (4, .int (iI k)), (0, .ref o), (1, .int (iI f)), (2, .int (iI j))] (by decide) rfl ?_
          refine s_goto X 54 dX6_asReal_86 (by decide) ?_
          refine s_locs (lv' := [(6, .double (FP.dadd (FP.dmul v 4621819117588971520) (FP.i2d (iI ((bA B n (k + x)) - 48))))), (8, .int (iI (x + 1))), (5, .int (iI ((rrP (wd B f j) (j - f)) - bs (wd B f j) 0))), (3, .int (iI ls)), (4, .int (iI k)), (0, .ref o), (1, .int (iI f)), (2, .int (iI j))]) [1, 0, 2, 3, 4, 5, 6, 7] rfl ?_
          exact ih9 (FP.dadd (FP.dmul v 4621819117588971520) (FP.i2d (iI ((bA B n (k + x)) - 48)))) (x + 1) (by omega) ((NN_add (NN_mul h3).2 (by omega)).2) (by rw [← h2, dr_s (i := bs (wd B f j) 0 + x) (by omega), if_neg (by omega), show dg ((wd B f j) (bs (wd B f j) 0 + x)) = bA B n (k + x) - 48 by omega, show bs (wd B f j) 0 + (x + 1) = bs (wd B f j) 0 + x + 1 by omega]) (by omega)
    refine s_locs (lv' := [(6, .double FP.dconst0), (8, .int (iI 0)), (5, .int (iI ((rrP (wd B f j) (j - f)) - bs (wd B f j) 0))), (3, .int (iI ls)), (4, .int (iI k)), (0, .ref o), (1, .int (iI f)), (2, .int (iI j))]) [1, 0, 2, 3, 4, 5, 6, 7] rfl ?_
    exact lp1 _ FP.dconst0 0 (by omega) (NN_0) (by rw [Int.add_zero]) (Nat.lt_succ_self _)
  refine s_icmp_ne X 14 dX6_asReal_7 (by decide) (by omega) (fun c7 => ?_) (fun c7 => ?_)
  · refine s_iconst X dX6_asReal_14 ?_
    refine s_istore_n X dX6_asReal_15 rfl [(3, .int (iI 0)), (0, .ref o), (1, .int (iI f)), (2, .int (iI j))] (by decide) rfl ?_
    refine s_iload_n X dX6_asReal_16 rfl 0 rfl ?_
    refine s_if_ne X 30 dX6_asReal_17 (by decide) (by omega) (fun c17 => ?_) (fun c17 => ?_)
    · refine s_iload_n X dX6_asReal_30 rfl 2 rfl ?_
      refine s_iconst X dX6_asReal_31 ?_
      refine s_iadd X dX6_asReal_32 ?_
      refine s_goto X 37 dX6_asReal_33 (by decide) ?_
      refine s_istore X dX6_asReal_37 [(4, .int (iI (f + 1))), (3, .int (iI 0)), (0, .ref o), (1, .int (iI f)), (2, .int (iI j))] (by decide) rfl ?_
      refine s_locs (lv' := [(3, .int (iI 0)), (4, .int (iI (f + 1))), (0, .ref o), (1, .int (iI f)), (2, .int (iI j))]) [1, 0, 2, 3, 4] rfl ?_
      exact j39 0 (f + 1) (by unfold lsIs; omega) (by unfold bs; first | (rw [if_pos (by omega)]; omega) | (rw [if_neg (by omega)]; omega))
    · refine s_aload_n X dX6_asReal_20 rfl 1 rfl ?_
      refine s_iload_n X dX6_asReal_21 rfl 2 rfl ?_
      refine s_callIV X lk_X6_63 [0, 1] [] (wr := []) rfl rfl (by decide) (by decide) (by decide) (c_X6_byteAt (kl K) G o a po xt xi xd yt yi yd th n e dn at9 dp kd wh pl base sg row ror np nw nb ns nrw nir inf9 re nr B f (by assumption) (by assumption) (by omega)) rfl rfl dX6_asReal_22 rfl rfl (Nat.le_of_ble_eq_true rfl) (by decide) (fun z29 w29 h29 => ?_)
      obtain ⟨rfl, rfl⟩ := h29
      show SW K G 13 0 0 25 [(3, .int (iI 0)), (0, .ref o), (1, .int (iI f)), (2, .int (iI j))] [.int (iI (bA B n f))] [oMo o th n a e dn at9 dp po kd wh re pl base sg xt row ror xi xd np nw nr nb ns yt nrw nir yi yd inf9, aB G a 3000 B]
      have q30 := bA_C n f (by assumption : ∀ j, B j < 256)
      have e0_29 : bA B n f = wd B f j 0 := by have h9 := wd_bA (B := B) (n := n) (i := f) (j := j) (x := f) (by omega); rwa [Int.sub_self] at h9
      refine s_bipush 43 X dX6_asReal_25 (by decide) ?_
      refine s_icmp_ne X 36 dX6_asReal_27 (by decide) (by omega) (fun c27 => ?_) (fun c27 => ?_)
      · refine s_iload_n X dX6_asReal_36 rfl 2 rfl ?_
        refine s_istore X dX6_asReal_37 [(4, .int (iI f)), (3, .int (iI 0)), (0, .ref o), (1, .int (iI f)), (2, .int (iI j))] (by decide) rfl ?_
        refine s_locs (lv' := [(3, .int (iI 0)), (4, .int (iI f)), (0, .ref o), (1, .int (iI f)), (2, .int (iI j))]) [1, 0, 2, 3, 4] rfl ?_
        exact j39 0 f (by unfold lsIs; omega) (by unfold bs; first | (rw [if_pos (by omega)]; omega) | (rw [if_neg (by omega)]; omega))
      · refine s_iload_n X dX6_asReal_30 rfl 2 rfl ?_
        refine s_iconst X dX6_asReal_31 ?_
        refine s_iadd X dX6_asReal_32 ?_
        refine s_goto X 37 dX6_asReal_33 (by decide) ?_
        refine s_istore X dX6_asReal_37 [(4, .int (iI (f + 1))), (3, .int (iI 0)), (0, .ref o), (1, .int (iI f)), (2, .int (iI j))] (by decide) rfl ?_
        refine s_locs (lv' := [(3, .int (iI 0)), (4, .int (iI (f + 1))), (0, .ref o), (1, .int (iI f)), (2, .int (iI j))]) [1, 0, 2, 3, 4] rfl ?_
        exact j39 0 (f + 1) (by unfold lsIs; omega) (by unfold bs; first | (rw [if_pos (by omega)]; omega) | (rw [if_neg (by omega)]; omega))
  · refine s_iconst X dX6_asReal_10 ?_
    refine s_goto X 15 dX6_asReal_11 (by decide) ?_
    refine s_istore_n X dX6_asReal_15 rfl [(3, .int (iI 1)), (0, .ref o), (1, .int (iI f)), (2, .int (iI j))] (by decide) rfl ?_
    refine s_iload_n X dX6_asReal_16 rfl 0 rfl ?_
    refine s_if_ne X 30 dX6_asReal_17 (by decide) (by omega) (fun c17 => ?_) (fun c17 => ?_)
    · refine s_iload_n X dX6_asReal_30 rfl 2 rfl ?_
      refine s_iconst X dX6_asReal_31 ?_
      refine s_iadd X dX6_asReal_32 ?_
      refine s_goto X 37 dX6_asReal_33 (by decide) ?_
      refine s_istore X dX6_asReal_37 [(4, .int (iI (f + 1))), (3, .int (iI 1)), (0, .ref o), (1, .int (iI f)), (2, .int (iI j))] (by decide) rfl ?_
      refine s_locs (lv' := [(3, .int (iI 1)), (4, .int (iI (f + 1))), (0, .ref o), (1, .int (iI f)), (2, .int (iI j))]) [1, 0, 2, 3, 4] rfl ?_
      exact j39 1 (f + 1) (by unfold lsIs; omega) (by unfold bs; first | (rw [if_pos (by omega)]; omega) | (rw [if_neg (by omega)]; omega))
    · refine s_aload_n X dX6_asReal_20 rfl 1 rfl ?_
      refine s_iload_n X dX6_asReal_21 rfl 2 rfl ?_
      refine s_callIV X lk_X6_63 [0, 1] [] (wr := []) rfl rfl (by decide) (by decide) (by decide) (c_X6_byteAt (kl K) G o a po xt xi xd yt yi yd th n e dn at9 dp kd wh pl base sg row ror np nw nb ns nrw nir inf9 re nr B f (by assumption) (by assumption) (by omega)) rfl rfl dX6_asReal_22 rfl rfl (Nat.le_of_ble_eq_true rfl) (by decide) (fun z31 w31 h31 => ?_)
      obtain ⟨rfl, rfl⟩ := h31
      show SW K G 13 0 0 25 [(3, .int (iI 1)), (0, .ref o), (1, .int (iI f)), (2, .int (iI j))] [.int (iI (bA B n f))] [oMo o th n a e dn at9 dp po kd wh re pl base sg xt row ror xi xd np nw nr nb ns yt nrw nir yi yd inf9, aB G a 3000 B]
      have q32 := bA_C n f (by assumption : ∀ j, B j < 256)
      have e0_31 : bA B n f = wd B f j 0 := by have h9 := wd_bA (B := B) (n := n) (i := f) (j := j) (x := f) (by omega); rwa [Int.sub_self] at h9
      refine s_bipush 43 X dX6_asReal_25 (by decide) ?_
      refine s_icmp_ne X 36 dX6_asReal_27 (by decide) (by omega) (fun c27 => ?_) (fun c27 => ?_)
      · refine s_iload_n X dX6_asReal_36 rfl 2 rfl ?_
        refine s_istore X dX6_asReal_37 [(4, .int (iI f)), (3, .int (iI 1)), (0, .ref o), (1, .int (iI f)), (2, .int (iI j))] (by decide) rfl ?_
        refine s_locs (lv' := [(3, .int (iI 1)), (4, .int (iI f)), (0, .ref o), (1, .int (iI f)), (2, .int (iI j))]) [1, 0, 2, 3, 4] rfl ?_
        exact j39 1 f (by unfold lsIs; omega) (by unfold bs; first | (rw [if_pos (by omega)]; omega) | (rw [if_neg (by omega)]; omega))
      · refine s_iload_n X dX6_asReal_30 rfl 2 rfl ?_
        refine s_iconst X dX6_asReal_31 ?_
        refine s_iadd X dX6_asReal_32 ?_
        refine s_goto X 37 dX6_asReal_33 (by decide) ?_
        refine s_istore X dX6_asReal_37 [(4, .int (iI (f + 1))), (3, .int (iI 1)), (0, .ref o), (1, .int (iI f)), (2, .int (iI j))] (by decide) rfl ?_
        refine s_locs (lv' := [(3, .int (iI 1)), (4, .int (iI (f + 1))), (0, .ref o), (1, .int (iI f)), (2, .int (iI j))]) [1, 0, 2, 3, 4] rfl ?_
        exact j39 1 (f + 1) (by unfold lsIs; omega) (by unfold bs; first | (rw [if_pos (by omega)]; omega) | (rw [if_neg (by omega)]; omega))
