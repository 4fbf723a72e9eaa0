set_option maxRecDepth 100000 in
set_option maxHeartbeats 4000000 in
theorem c_X6_rows (l : Launch) (G : GX) (o : Nat) (a : Nat) (po : Nat) (xt : Nat) (xi : Nat) (xd : Nat) (yt : Nat) (yi : Nat) (yd : Nat) (th : Int) (n : Int) (e : Int) (dn : Int) (at9 : Int) (dp : Int) (kd : Int) (wh : Int) (pl : Int) (base : Int) (sg : Int) (row : Int) (ror : Int) (np : Int) (nw : Int) (nb : Int) (ns : Int) (nrw : Int) (nir : Int) (inf9 : Int) (re : UInt64) (nr : UInt64) (B : Nat → Nat) (qi : Nat → Int) (qd : Nat → UInt64) (hn : 0 ≤ n ∧ n ≤ 3000) (hBb : ∀ j, B j < 256) (he : e = 0 ∨ e = 1) (hap : 0 ≤ at9 ∧ at9 < n) (hnp : np = at9) (hif0 : inf9 = 0) : CtI l G yX6_rows cX6_rows 8 (some .int) ({ frames := 3, cells := 0, slots := 0, locals := 79 } : Room) [.ref o] [oMo o th n a e dn at9 dp po kd wh re pl base sg xt row ror xi xd np nw nr nb ns yt nrw nir yi yd inf9, aB G a 3000 B, aI G yi 60 qi, aF G yd 60 qd] (fun (z9 : Int) (w9 : va_W) => ∃ (at2 : Int), ∃ (np2 : Int), ∃ (nw2 : Int), ∃ (nrw2 : Int), ∃ (nir2 : Int), ∃ (inf2 : Int), ∃ (qi2 : Nat → Int), ∃ (qd2 : Nat → UInt64), z9 = (rwA B n e at9) ∧ w9 = [oMo o th n a e dn at2 dp po kd wh re pl base sg xt row ror xi xd np2 nw2 nr nb ns yt nrw2 nir2 yi yd inf2, aB G a 3000 B, aI G yi 60 qi2, aF G yd 60 qd2] ∧ (z9 ≠ 0 → at2 = rwF B n at9 ∧ np2 = rwP B n at9) ∧ (z9 = 16 → nw2 = rwM B n at9 ∧ nrw2 = rwM B n at9 ∧ nir2 = tf (rwR (bA B n (at9 + 1))) ∧ ∀ j : Int, 0 ≤ j → j < rwM B n at9 → (rwR (bA B n (at9 + 1)) → qd2 j.toNat = rwD B n (at9 + 4) (bA B n (at9 + 1)) j) ∧ (¬ rwR (bA B n (at9 + 1)) → qi2 j.toNat = rwZ B n (at9 + 4) (bA B n (at9 + 1)) j)) ∧ (nir2 = nir ∨ (0 ≤ nir2 ∧ nir2 ≤ 1))) := by
  intro sz
  refine met_of (fun wc sz => va_Qi (qI _) (posW G wc sz) (va_A wc sz)) (by decide) [(0, .ref o)] rfl (Nat.le_of_ble_eq_true rfl) (fun K hK9 hnm X Y => ?_)
  subst hK9
  replace Y : RI K G (some .int) 0 0 _ := Y
  refine s_aload_n X dX6_rows_0 rfl 0 rfl ?_
  refine s_iconst X dX6_rows_1 ?_
  refine s_callIV X lk_X6_180 [0] [1, 2, 3] (wr := [aB G a 3000 B, aI G yi 60 qi, aF G yd 60 qd]) rfl rfl (by decide) (by decide) (by decide) (c_X6_came (kl K) G o a po xt xi xd yt yi yd th n e dn at9 dp kd wh pl base sg row ror np nw nb ns nrw nir inf9 re nr 2 (by omega)) rfl rfl dX6_rows_2 rfl rfl (Nat.le_of_ble_eq_true rfl) (by decide) (fun z1 w1 h1 => ?_)
  obtain ⟨rfl, rfl⟩ := h1
  show SW K G 8 0 0 5 [(0, .ref o)] [.int (iI (tf (np + 2 ≤ n)))] [aB G a 3000 B, aI G yi 60 qi, aF G yd 60 qd, oMo o th n a e dn at9 dp po kd wh re pl base sg xt row ror xi xd np nw nr nb ns yt nrw nir yi yd inf9]
  refine s_tf_ne X 13 dX6_rows_5 (by decide) (fun c5 => ?_) (fun c5 => ?_)
  · refine s_aload_n X dX6_rows_13 rfl 0 rfl ?_
    refine s_aload_n X dX6_rows_14 rfl 0 rfl ?_
    refine s_get X dX6_rows_15 fl_X6_102 3 rfl rfl ?_
    refine s_iconst X dX6_rows_18 ?_
    refine s_iadd X dX6_rows_19 ?_
    refine s_callIV X lk_X6_63 [3, 0] [1, 2] (wr := [aI G yi 60 qi, aF G yd 60 qd]) rfl rfl (by decide) (by decide) (by decide) (c_X6_byteAt (kl K) G o a po xt xi xd yt yi yd th n e dn at9 dp kd wh pl base sg row ror np nw nb ns nrw nir inf9 re nr B (at9 + 1) (by assumption) (by assumption) (by omega)) rfl rfl dX6_rows_20 rfl rfl (Nat.le_of_ble_eq_true rfl) (by decide) (fun z2 w2 h2 => ?_)
    obtain ⟨rfl, rfl⟩ := h2
    show SW K G 8 0 0 23 [(0, .ref o)] [.int (iI (bA B n (at9 + 1)))] [aI G yi 60 qi, aF G yd 60 qd, oMo o th n a e dn at9 dp po kd wh re pl base sg xt row ror xi xd np nw nr nb ns yt nrw nir yi yd inf9, aB G a 3000 B]
    have q3 := bA_C n (at9 + 1) (by assumption : ∀ j, B j < 256)
    refine s_istore_n X dX6_rows_23 rfl [(1, .int (iI (bA B n (at9 + 1)))), (0, .ref o)] (by decide) rfl ?_
    have j35 : ∀ (lf : Int) (hlf : lf = lfO (bA B n (at9 + 1))), SW K G 8 0 0 35 [(1, .int (iI (bA B n (at9 + 1)))), (0, .ref o)] [.int (iI lf)] [aI G yi 60 qi, aF G yd 60 qd, oMo o th n a e dn at9 dp po kd wh re pl base sg xt row ror xi xd np nw nr nb ns yt nrw nir yi yd inf9, aB G a 3000 B] := by
      intro lf hlf
      have hlc := lfO_C (bA B n (at9 + 1))
      refine s_istore_n X dX6_rows_35 rfl [(2, .int (iI lf)), (1, .int (iI (bA B n (at9 + 1)))), (0, .ref o)] (by decide) rfl ?_
      have j49 : ∀ (s : Int) (hs : s = (bA B n (at9 + 1)) % 128), SW K G 8 0 0 49 [(2, .int (iI lf)), (1, .int (iI (bA B n (at9 + 1)))), (0, .ref o)] [.int (iI s)] [aI G yi 60 qi, aF G yd 60 qd, oMo o th n a e dn at9 dp po kd wh re pl base sg xt row ror xi xd np nw nr nb ns yt nrw nir yi yd inf9, aB G a 3000 B] := by
        intro s hs
        refine s_istore_n X dX6_rows_49 rfl [(3, .int (iI s)), (2, .int (iI lf)), (1, .int (iI (bA B n (at9 + 1)))), (0, .ref o)] (by decide) rfl ?_
        refine s_iload_n X dX6_rows_50 rfl 0 rfl ?_
        refine s_bipush 48 X dX6_rows_51 (by decide) ?_
        refine s_icmp_le X 72 dX6_rows_53 (by decide) (by omega) (fun c53 => ?_) (fun c53 => ?_)
        · refine s_aload_n X dX6_rows_72 rfl 3 rfl ?_
          refine s_iconst X dX6_rows_73 ?_
          refine s_callIV X lk_X6_180 [2] [0, 1, 3] (wr := [aI G yi 60 qi, aF G yd 60 qd, aB G a 3000 B]) rfl rfl (by decide) (by decide) (by decide) (c_X6_came (kl K) G o a po xt xi xd yt yi yd th n e dn at9 dp kd wh pl base sg row ror np nw nb ns nrw nir inf9 re nr 4 (by omega)) rfl rfl dX6_rows_74 rfl rfl (Nat.le_of_ble_eq_true rfl) (by decide) (fun z4 w4 h4 => ?_)
          obtain ⟨rfl, rfl⟩ := h4
          show SW K G 8 0 0 77 [(3, .int (iI s)), (2, .int (iI lf)), (1, .int (iI (bA B n (at9 + 1)))), (0, .ref o)] [.int (iI (tf (np + 4 ≤ n)))] [aI G yi 60 qi, aF G yd 60 qd, aB G a 3000 B, oMo o th n a e dn at9 dp po kd wh re pl base sg xt row ror xi xd np nw nr nb ns yt nrw nir yi yd inf9]
          refine s_tf_ne X 85 dX6_rows_77 (by decide) (fun c77 => ?_) (fun c77 => ?_)
          · have j142 : ∀ (mm : Int) (hmm : mm = rwM B n at9), SW K G 8 0 0 142 [(3, .int (iI s)), (2, .int (iI lf)), (1, .int (iI (bA B n (at9 + 1)))), (0, .ref o)] [.int (iI mm)] [aI G yi 60 qi, aF G yd 60 qd, aB G a 3000 B, oMo o th n a e dn at9 dp po kd wh re pl base sg xt row ror xi xd np nw nr nb ns yt nrw nir yi yd inf9] := by
              intro mm hmm
              refine s_istore X dX6_rows_142 [(4, .int (iI mm)), (3, .int (iI s)), (2, .int (iI lf)), (1, .int (iI (bA B n (at9 + 1)))), (0, .ref o)] (by decide) rfl ?_
              have j161 : ∀ (w : Int) (hw : w = wO (bA B n (at9 + 1))), SW K G 8 0 0 161 [(4, .int (iI mm)), (3, .int (iI s)), (2, .int (iI lf)), (1, .int (iI (bA B n (at9 + 1)))), (0, .ref o)] [.int (iI w)] [aI G yi 60 qi, aF G yd 60 qd, aB G a 3000 B, oMo o th n a e dn at9 dp po kd wh re pl base sg xt row ror xi xd np nw nr nb ns yt nrw nir yi yd inf9] := by
                intro w hw
                have hwc := wO_C (bA B n (at9 + 1))
                have hlc := lfO_C (bA B n (at9 + 1))
                have hmR : 0 ≤ mm ∧ mm < 65536 := by have h9 := uu_R (B := B) (n := n) (i := at9 + 2) (w := 2) (lf := lfO (bA B n (at9 + 1))) hBb (by omega) (by omega) (lfO_c _); have h8 : mm = uu B n (at9 + 2) 2 (lfO (bA B n (at9 + 1))) 2 := hmm; rw [← show uu B n (at9 + 2) 2 (lfO (bA B n (at9 + 1))) 2 = uu B n (at9 + 2) 2 (lfO (bA B n (at9 + 1))) (2 : Int).toNat from rfl, ← h8] at h9; omega
                have hw24 : w = 2 ∨ w = 4 := by omega
                have hmw := m_w hw24 hmR
                refine s_istore X dX6_rows_161 [(5, .int (iI w)), (4, .int (iI mm)), (3, .int (iI s)), (2, .int (iI lf)), (1, .int (iI (bA B n (at9 + 1)))), (0, .ref o)] (by decide) rfl ?_
                refine s_aload_n X dX6_rows_163 rfl 5 rfl ?_
                refine s_iconst X dX6_rows_164 ?_
                refine s_iload X dX6_rows_165 0 rfl ?_
                refine s_iload X dX6_rows_167 1 rfl ?_
                refine s_imul X dX6_rows_169 ?_
                refine s_cast (st' := [.int (iI (mm * w)), .int (iI 4), .ref o]) (by rw [Int.mul_comm w mm]) rfl rfl ?_
                refine s_iadd X dX6_rows_170 ?_
                refine s_callIV X lk_X6_180 [3] [0, 1, 2] (wr := [aI G yi 60 qi, aF G yd 60 qd, aB G a 3000 B]) rfl rfl (by decide) (by decide) (by decide) (c_X6_came (kl K) G o a po xt xi xd yt yi yd th n e dn at9 dp kd wh pl base sg row ror np nw nb ns nrw nir inf9 re nr (4 + (mm * w)) (by omega)) rfl rfl dX6_rows_171 rfl rfl (Nat.le_of_ble_eq_true rfl) (by decide) (fun z5 w5 h5 => ?_)
                obtain ⟨rfl, rfl⟩ := h5
                show SW K G 8 0 0 174 [(5, .int (iI w)), (4, .int (iI mm)), (3, .int (iI s)), (2, .int (iI lf)), (1, .int (iI (bA B n (at9 + 1)))), (0, .ref o)] [.int (iI (tf (np + (4 + (mm * w)) ≤ n)))] [aI G yi 60 qi, aF G yd 60 qd, aB G a 3000 B, oMo o th n a e dn at9 dp po kd wh re pl base sg xt row ror xi xd np nw nr nb ns yt nrw nir yi yd inf9]
                refine s_tf_ne X 182 dX6_rows_174 (by decide) (fun c174 => ?_) (fun c174 => ?_)
                · have j198 : ∀ (x : Int) (hx : (rwR (bA B n (at9 + 1)) ∧ x = 1) ∨ (¬ rwR (bA B n (at9 + 1)) ∧ x = 0)), SW K G 8 0 0 198 [(5, .int (iI w)), (4, .int (iI mm)), (3, .int (iI s)), (2, .int (iI lf)), (1, .int (iI (bA B n (at9 + 1)))), (0, .ref o)] [.int (iI x), .ref o] [aI G yi 60 qi, aF G yd 60 qd, aB G a 3000 B, oMo o th n a e dn at9 dp po kd wh re pl base sg xt row ror xi xd np nw nr nb ns yt nrw nir yi yd inf9] := by
                    intro x hx
                    refine s_put X dX6_rows_198 fl_X6_183 tyX6_ok nmX6 3 rfl rfl (nb_nar (by omega)) (nb_fit (by omega)) (Nat.le_of_ble_eq_true rfl) [aI G yi 60 qi, aF G yd 60 qd, aB G a 3000 B, oMo o th n a e dn at9 dp po kd wh re pl base sg xt row ror xi xd np nw nr nb ns yt nrw x yi yd inf9] rfl ?_
                    refine s_iconst X dX6_rows_201 ?_
                    refine s_istore X dX6_rows_202 [(6, .int (iI 0)), (5, .int (iI w)), (4, .int (iI mm)), (3, .int (iI s)), (2, .int (iI lf)), (1, .int (iI (bA B n (at9 + 1)))), (0, .ref o)] (by decide) rfl ?_
                    have lp : ∀ (m9 : Nat) (k : Int) (x9 : Int) (ri : Nat → Int) (rd9 : Nat → UInt64) (g1 : 0 ≤ k ∧ k ≤ 60 ∧ (k ≤ mm ∨ k = 0)) (g2 : ((bA B n (at9 + 1)) % 128 = 48 ∧ x9 = infC B n (at9 + 4) (bA B n (at9 + 1)) k.toNat) ∨ (¬ (bA B n (at9 + 1)) % 128 = 48 ∧ x9 = 0)) (g3 : ∀ j : Int, 0 ≤ j → j < k → (rwR (bA B n (at9 + 1)) → rd9 j.toNat = rwD B n (at9 + 4) (bA B n (at9 + 1)) j) ∧ (¬ rwR (bA B n (at9 + 1)) → ri j.toNat = rwZ B n (at9 + 4) (bA B n (at9 + 1)) j)), (60 - k).toNat < m9 → SW K G 8 0 0 204 [(6, .int (iI k)), (5, .int (iI w)), (4, .int (iI mm)), (3, .int (iI s)), (2, .int (iI lf)), (1, .int (iI (bA B n (at9 + 1)))), (0, .ref o)] [] [oMo o th n a e dn at9 dp po kd wh re pl base sg xt row ror xi xd np nw nr nb ns yt nrw x yi yd x9, aB G a 3000 B, aI G yi 60 ri, aF G yd 60 rd9] := by
                      intro m9
                      induction m9 with
                      | zero => intro k x9 ri rd9 g1 g2 g3 hm9; exact absurd hm9 (Nat.not_lt_zero _)
                      | succ m9 ih9 =>
                        intro k x9 ri rd9 g1 g2 g3 hm9
                        have hx01 := infC_01 B n (at9 + 4) (bA B n (at9 + 1)) k.toNat
                        refine s_iload X dX6_rows_204 0 rfl ?_
                        refine s_iload X dX6_rows_206 2 rfl ?_
                        refine s_icmp_ge X 323 dX6_rows_208 (by decide) (by omega) (fun c208 => ?_) (fun c208 => ?_)
                        · refine s_aload_n X dX6_rows_323 rfl 6 rfl ?_
                          refine s_iload X dX6_rows_324 2 rfl ?_
                          refine s_put X dX6_rows_326 fl_X6_190 tyX6_ok nmX6 0 rfl rfl (rfl) (rfl) (Nat.le_of_ble_eq_true rfl) [oMo o th n a e dn at9 dp po kd wh re pl base sg xt row ror xi xd np nw nr nb ns yt mm x yi yd x9, aB G a 3000 B, aI G yi 60 ri, aF G yd 60 rd9] rfl ?_
                          refine s_aload_n X dX6_rows_329 rfl 6 rfl ?_
                          refine s_iload X dX6_rows_330 2 rfl ?_
                          refine s_i2l X dX6_rows_332 (by omega) ?_
                          refine s_put X dX6_rows_333 fl_X6_77 tyX6_ok nmX6 0 rfl rfl (rfl) (rfl) (Nat.le_of_ble_eq_true rfl) [oMo o th n a e dn at9 dp po kd wh re pl base sg xt row ror xi xd np mm nr nb ns yt mm x yi yd x9, aB G a 3000 B, aI G yi 60 ri, aF G yd 60 rd9] rfl ?_
                          refine s_aload_n X dX6_rows_336 rfl 6 rfl ?_
                          refine s_aload_n X dX6_rows_337 rfl 6 rfl ?_
                          refine s_get X dX6_rows_338 fl_X6_102 0 rfl rfl ?_
                          refine s_iconst X dX6_rows_341 ?_
                          refine s_iadd X dX6_rows_342 ?_
                          refine s_iload X dX6_rows_343 1 rfl ?_
                          refine s_iload X dX6_rows_345 2 rfl ?_
                          refine s_imul X dX6_rows_347 ?_
                          refine s_cast (st' := [.int (iI (mm * w)), .int (iI (at9 + 4)), .ref o]) (by rw [Int.mul_comm w mm]) rfl rfl ?_
                          refine s_iadd X dX6_rows_348 ?_
                          refine s_put X dX6_rows_349 fl_X6_102 tyX6_ok nmX6 0 rfl rfl (rfl) (rfl) (Nat.le_of_ble_eq_true rfl) [oMo o th n a e dn ((at9 + 4) + (mm * w)) dp po kd wh re pl base sg xt row ror xi xd np mm nr nb ns yt mm x yi yd x9, aB G a 3000 B, aI G yi 60 ri, aF G yd 60 rd9] rfl ?_
                          have hkm : mm ≤ 60 → k = mm := by omega
                          refine s_iload X dX6_rows_352 2 rfl ?_
                          refine s_bipush 60 X dX6_rows_354 (by decide) ?_
                          refine s_icmp_le X 364 dX6_rows_356 (by decide) (by omega) (fun c356 => ?_) (fun c356 => ?_)
                          · replace hkm := hkm (by omega)
                            refine s_aload_n X dX6_rows_364 rfl 6 rfl ?_
                            refine s_get X dX6_rows_365 fl_X6_171 0 rfl rfl ?_
                            refine s_if_eq X 376 dX6_rows_368 (by decide) (by omega) (fun c368 => ?_) (fun c368 => ?_)
                            · refine s_bipush 16 X dX6_rows_376 (by decide) ?_
                              refine s_iret X Y dX6_rows_378 (rfl) ?_
                              refine ⟨((at9 + 4) + (mm * w)), np, mm, mm, x, x9, ri, rd9, ?_, rfl, ?_, ?_, ?_⟩
                              · (first | (exfalso; omega) | (rw [(rw_s (B := B) e (by omega) (by omega) hmm hw).1, ← nuA_y (q := at9 + 4 + mm * w) (by omega)]; exact ((if_neg (by omega)).trans (if_neg (fun q => by rw [← hkm] at q; omega))).symm))
                              · (first | (exfalso; omega) | (intro _; have hh := rw_s (B := B) e (by omega) (by omega) hmm hw; rw [hh.2.1, hh.2.2]; exact ⟨lk_y (by omega), hnp⟩))
                              · (first | (exfalso; omega) | (intro _; exact ⟨hmm, hmm, tf_of hx, by rw [← hmm, ← hkm]; exact g3⟩))
                              · (first | (exfalso; omega) | (omega))
                            · refine s_bipush (-6) X dX6_rows_371 (by decide) ?_
                              refine s_goto X 378 dX6_rows_373 (by decide) ?_
                              refine s_iret X Y dX6_rows_378 (rfl) ?_
                              refine ⟨((at9 + 4) + (mm * w)), np, mm, mm, x, x9, ri, rd9, ?_, rfl, ?_, ?_, ?_⟩
                              · (first | (exfalso; omega) | (rw [(rw_s (B := B) e (by omega) (by omega) hmm hw).1, ← nuA_y (q := at9 + 4 + mm * w) (by omega)]; exact ((if_neg (by omega)).trans (if_pos ⟨by omega, by rw [← hkm]; omega⟩)).symm))
                              · (first | (exfalso; omega) | (intro _; have hh := rw_s (B := B) e (by omega) (by omega) hmm hw; rw [hh.2.1, hh.2.2]; exact ⟨lk_y (by omega), hnp⟩))
                              · (first | (exfalso; omega) | (intro h; exact absurd h (by decide)))
                              · (first | (exfalso; omega) | (omega))
                          · refine s_bipush (-2) X dX6_rows_359 (by decide) ?_
                            refine s_goto X 378 dX6_rows_361 (by decide) ?_
                            refine s_iret X Y dX6_rows_378 (rfl) ?_
                            refine ⟨((at9 + 4) + (mm * w)), np, mm, mm, x, x9, ri, rd9, ?_, rfl, ?_, ?_, ?_⟩
                            · (first | (exfalso; omega) | (rw [(rw_s (B := B) e (by omega) (by omega) hmm hw).1, ← nuA_y (q := at9 + 4 + mm * w) (by omega)]; exact (if_pos (by omega)).symm))
                            · (first | (exfalso; omega) | (intro _; have hh := rw_s (B := B) e (by omega) (by omega) hmm hw; rw [hh.2.1, hh.2.2]; exact ⟨lk_y (by omega), hnp⟩))
                            · (first | (exfalso; omega) | (intro h; exact absurd h (by decide)))
                            · (first | (exfalso; omega) | (omega))
                        · refine s_iload X dX6_rows_211 0 rfl ?_
                          refine s_bipush 60 X dX6_rows_213 (by decide) ?_
                          refine s_icmp_ge X 323 dX6_rows_215 (by decide) (by omega) (fun c215 => ?_) (fun c215 => ?_)
                          · refine s_aload_n X dX6_rows_323 rfl 6 rfl ?_
                            refine s_iload X dX6_rows_324 2 rfl ?_
                            refine s_put X dX6_rows_326 fl_X6_190 tyX6_ok nmX6 0 rfl rfl (rfl) (rfl) (Nat.le_of_ble_eq_true rfl) [oMo o th n a e dn at9 dp po kd wh re pl base sg xt row ror xi xd np nw nr nb ns yt mm x yi yd x9, aB G a 3000 B, aI G yi 60 ri, aF G yd 60 rd9] rfl ?_
                            refine s_aload_n X dX6_rows_329 rfl 6 rfl ?_
                            refine s_iload X dX6_rows_330 2 rfl ?_
                            refine s_i2l X dX6_rows_332 (by omega) ?_
                            refine s_put X dX6_rows_333 fl_X6_77 tyX6_ok nmX6 0 rfl rfl (rfl) (rfl) (Nat.le_of_ble_eq_true rfl) [oMo o th n a e dn at9 dp po kd wh re pl base sg xt row ror xi xd np mm nr nb ns yt mm x yi yd x9, aB G a 3000 B, aI G yi 60 ri, aF G yd 60 rd9] rfl ?_
                            refine s_aload_n X dX6_rows_336 rfl 6 rfl ?_
                            refine s_aload_n X dX6_rows_337 rfl 6 rfl ?_
                            refine s_get X dX6_rows_338 fl_X6_102 0 rfl rfl ?_
                            refine s_iconst X dX6_rows_341 ?_
                            refine s_iadd X dX6_rows_342 ?_
                            refine s_iload X dX6_rows_343 1 rfl ?_
                            refine s_iload X dX6_rows_345 2 rfl ?_
                            refine s_imul X dX6_rows_347 ?_
                            refine s_cast (st' := [.int (iI (mm * w)), .int (iI (at9 + 4)), .ref o]) (by rw [Int.mul_comm w mm]) rfl rfl ?_
                            refine s_iadd X dX6_rows_348 ?_
                            refine s_put X dX6_rows_349 fl_X6_102 tyX6_ok nmX6 0 rfl rfl (rfl) (rfl) (Nat.le_of_ble_eq_true rfl) [oMo o th n a e dn ((at9 + 4) + (mm * w)) dp po kd wh re pl base sg xt row ror xi xd np mm nr nb ns yt mm x yi yd x9, aB G a 3000 B, aI G yi 60 ri, aF G yd 60 rd9] rfl ?_
                            have hkm : mm ≤ 60 → k = mm := by omega
                            refine s_iload X dX6_rows_352 2 rfl ?_
                            refine s_bipush 60 X dX6_rows_354 (by decide) ?_
                            refine s_icmp_le X 364 dX6_rows_356 (by decide) (by omega) (fun c356 => ?_) (fun c356 => ?_)
                            · replace hkm := hkm (by omega)
                              refine s_aload_n X dX6_rows_364 rfl 6 rfl ?_
                              refine s_get X dX6_rows_365 fl_X6_171 0 rfl rfl ?_
                              refine s_if_eq X 376 dX6_rows_368 (by decide) (by omega) (fun c368 => ?_) (fun c368 => ?_)
                              · refine s_bipush 16 X dX6_rows_376 (by decide) ?_
                                refine s_iret X Y dX6_rows_378 (rfl) ?_
                                refine ⟨((at9 + 4) + (mm * w)), np, mm, mm, x, x9, ri, rd9, ?_, rfl, ?_, ?_, ?_⟩
                                · (first | (exfalso; omega) | (rw [(rw_s (B := B) e (by omega) (by omega) hmm hw).1, ← nuA_y (q := at9 + 4 + mm * w) (by omega)]; exact ((if_neg (by omega)).trans (if_neg (fun q => by rw [← hkm] at q; omega))).symm))
                                · (first | (exfalso; omega) | (intro _; have hh := rw_s (B := B) e (by omega) (by omega) hmm hw; rw [hh.2.1, hh.2.2]; exact ⟨lk_y (by omega), hnp⟩))
                                · (first | (exfalso; omega) | (intro _; exact ⟨hmm, hmm, tf_of hx, by rw [← hmm, ← hkm]; exact g3⟩))
                                · (first | (exfalso; omega) | (omega))
                              · refine s_bipush (-6) X dX6_rows_371 (by decide) ?_
                                refine s_goto X 378 dX6_rows_373 (by decide) ?_
                                refine s_iret X Y dX6_rows_378 (rfl) ?_
                                refine ⟨((at9 + 4) + (mm * w)), np, mm, mm, x, x9, ri, rd9, ?_, rfl, ?_, ?_, ?_⟩
                                · (first | (exfalso; omega) | (rw [(rw_s (B := B) e (by omega) (by omega) hmm hw).1, ← nuA_y (q := at9 + 4 + mm * w) (by omega)]; exact ((if_neg (by omega)).trans (if_pos ⟨by omega, by rw [← hkm]; omega⟩)).symm))
                                · (first | (exfalso; omega) | (intro _; have hh := rw_s (B := B) e (by omega) (by omega) hmm hw; rw [hh.2.1, hh.2.2]; exact ⟨lk_y (by omega), hnp⟩))
                                · (first | (exfalso; omega) | (intro h; exact absurd h (by decide)))
                                · (first | (exfalso; omega) | (omega))
                            · refine s_bipush (-2) X dX6_rows_359 (by decide) ?_
                              refine s_goto X 378 dX6_rows_361 (by decide) ?_
                              refine s_iret X Y dX6_rows_378 (rfl) ?_
                              refine ⟨((at9 + 4) + (mm * w)), np, mm, mm, x, x9, ri, rd9, ?_, rfl, ?_, ?_, ?_⟩
                              · (first | (exfalso; omega) | (rw [(rw_s (B := B) e (by omega) (by omega) hmm hw).1, ← nuA_y (q := at9 + 4 + mm * w) (by omega)]; exact (if_pos (by omega)).symm))
                              · (first | (exfalso; omega) | (intro _; have hh := rw_s (B := B) e (by omega) (by omega) hmm hw; rw [hh.2.1, hh.2.2]; exact ⟨lk_y (by omega), hnp⟩))
                              · (first | (exfalso; omega) | (intro h; exact absurd h (by decide)))
                              · (first | (exfalso; omega) | (omega))
                          · have hk9 := k_in (i := at9 + 4) (k := k) (cnt := mm) (w := w) (n := n) hw24 g1.1 (by omega) (by omega)
                            refine s_aload_n X dX6_rows_218 rfl 6 rfl ?_
                            refine s_get X dX6_rows_219 fl_X6_102 0 rfl rfl ?_
                            refine s_iconst X dX6_rows_222 ?_
                            refine s_iadd X dX6_rows_223 ?_
                            refine s_iload X dX6_rows_224 1 rfl ?_
                            refine s_iload X dX6_rows_226 0 rfl ?_
                            refine s_imul X dX6_rows_228 ?_
                            refine s_cast (st' := [.int (iI (k * w)), .int (iI (at9 + 4))]) (by rw [Int.mul_comm w k]) rfl rfl ?_
                            refine s_iadd X dX6_rows_229 ?_
                            refine s_istore X dX6_rows_230 [(7, .int (iI ((at9 + 4) + (k * w)))), (6, .int (iI k)), (5, .int (iI w)), (4, .int (iI mm)), (3, .int (iI s)), (2, .int (iI lf)), (1, .int (iI (bA B n (at9 + 1)))), (0, .ref o)] (by decide) rfl ?_
                            refine s_iload_n X dX6_rows_232 rfl 4 rfl ?_
                            refine s_bipush 48 X dX6_rows_233 (by decide) ?_
                            refine s_icmp_ne X 255 dX6_rows_235 (by decide) (by omega) (fun c235 => ?_) (fun c235 => ?_)
                            · refine s_aload_n X dX6_rows_255 rfl 7 rfl ?_
                              refine s_get X dX6_rows_256 fl_X6_183 0 rfl rfl ?_
                              refine s_if_eq X 300 dX6_rows_259 (by decide) (by omega) (fun c259 => ?_) (fun c259 => ?_)
                              · refine s_aload_n X dX6_rows_300 rfl 7 rfl ?_
                                refine s_get X dX6_rows_301 fl_X6_34 0 rfl rfl ?_
                                refine s_iload X dX6_rows_304 1 rfl ?_
                                refine s_aload_n X dX6_rows_306 rfl 7 rfl ?_
                                refine s_iload X dX6_rows_307 0 rfl ?_
                                refine s_iload X dX6_rows_309 2 rfl ?_
                                refine s_iload_n X dX6_rows_311 rfl 5 rfl ?_
                                refine s_callLV X lk_X6_165 [0, 1] [2, 3] (wr := [aI G yi 60 ri, aF G yd 60 rd9]) rfl rfl (by decide) (by decide) (by decide) (c_X6_signed (kl K) G o a po xt xi xd yt yi yd th n e dn at9 dp kd wh pl base sg row ror np nw nb ns nrw x x9 re nr B ((at9 + 4) + (k * w)) w lf (by assumption) (by assumption) (by omega) (by omega) (by omega)) rfl rfl dX6_rows_312 rfl rfl (Nat.le_of_ble_eq_true rfl) (by decide) (fun z6 w6 h6 => ?_)
                                obtain ⟨rfl, rfl⟩ := h6
                                show SW K G 8 0 0 315 [(7, .int (iI ((at9 + 4) + (k * w)))), (6, .int (iI k)), (5, .int (iI w)), (4, .int (iI mm)), (3, .int (iI s)), (2, .int (iI lf)), (1, .int (iI (bA B n (at9 + 1)))), (0, .ref o)] [.long (lI (nmb B n ((at9 + 4) + (k * w)) w lf)), .int (iI k), .ref yi] [aI G yi 60 ri, aF G yd 60 rd9, oMo o th n a e dn at9 dp po kd wh re pl base sg xt row ror xi xd np nw nr nb ns yt nrw x yi yd x9, aB G a 3000 B]
                                have q7 := nmb_R (B := B) (n := n) (i := ((at9 + 4) + (k * w))) (w := w) (lf := lf) (by assumption) (by omega) (by omega) (by omega)
                                refine s_l2i X dX6_rows_315 ?_
                                refine s_iast X dX6_rows_316 0 rfl (by omega) [aI G yi 60 (uI ri k.toNat (nmb B n ((at9 + 4) + (k * w)) w lf)), aF G yd 60 rd9, oMo o th n a e dn at9 dp po kd wh re pl base sg xt row ror xi xd np nw nr nb ns yt nrw x yi yd x9, aB G a 3000 B] rfl ?_
                                refine s_iinc (z := k + 1) X dX6_rows_317 1 rfl (by first | rfl | omega) [(6, .int (iI (k + 1))), (7, .int (iI ((at9 + 4) + (k * w)))), (5, .int (iI w)), (4, .int (iI mm)), (3, .int (iI s)), (2, .int (iI lf)), (1, .int (iI (bA B n (at9 + 1)))), (0, .ref o)] (by decide) rfl ?_
                                refine s_goto X 204 dX6_rows_320 (by decide) ?_
                                refine s_locs (lv' := [(6, .int (iI (k + 1))), (5, .int (iI w)), (4, .int (iI mm)), (3, .int (iI s)), (2, .int (iI lf)), (1, .int (iI (bA B n (at9 + 1)))), (0, .ref o)]) [0, 2, 3, 4, 5, 6, 7] rfl ?_
                                refine s_perm (ws' := [oMo o th n a e dn at9 dp po kd wh re pl base sg xt row ror xi xd np nw nr nb ns yt nrw x yi yd x9, aB G a 3000 B, aI G yi 60 (uI ri k.toNat (nmb B n ((at9 + 4) + (k * w)) w lf)), aF G yd 60 rd9]) [2, 3, 0, 1] (by decide) rfl rfl ?_
                                exact ih9 (k + 1) x9 (uI ri k.toNat (nmb B n ((at9 + 4) + (k * w)) w lf)) rd9 (by omega) (Or.inr ⟨by omega, (g2.resolve_left (fun q => by omega)).2⟩) (rg_Z g1.1 (fun q => by omega) g3 (rwZ_of hw hlf)) (by omega)
                              · refine s_aload_n X dX6_rows_262 rfl 7 rfl ?_
                                refine s_get X dX6_rows_263 fl_X6_37 0 rfl rfl ?_
                                refine s_iload X dX6_rows_266 1 rfl ?_
                                refine s_aload_n X dX6_rows_268 rfl 7 rfl ?_
                                refine s_iload X dX6_rows_269 0 rfl ?_
                                refine s_iload X dX6_rows_271 2 rfl ?_
                                refine s_iload_n X dX6_rows_273 rfl 5 rfl ?_
                                refine s_callLV X lk_X6_165 [0, 1] [2, 3] (wr := [aI G yi 60 ri, aF G yd 60 rd9]) rfl rfl (by decide) (by decide) (by decide) (c_X6_signed (kl K) G o a po xt xi xd yt yi yd th n e dn at9 dp kd wh pl base sg row ror np nw nb ns nrw x x9 re nr B ((at9 + 4) + (k * w)) w lf (by assumption) (by assumption) (by omega) (by omega) (by omega)) rfl rfl dX6_rows_274 rfl rfl (Nat.le_of_ble_eq_true rfl) (by decide) (fun z8 w8 h8 => ?_)
                                obtain ⟨rfl, rfl⟩ := h8
                                show SW K G 8 0 0 277 [(7, .int (iI ((at9 + 4) + (k * w)))), (6, .int (iI k)), (5, .int (iI w)), (4, .int (iI mm)), (3, .int (iI s)), (2, .int (iI lf)), (1, .int (iI (bA B n (at9 + 1)))), (0, .ref o)] [.long (lI (nmb B n ((at9 + 4) + (k * w)) w lf)), .int (iI k), .ref yd] [aI G yi 60 ri, aF G yd 60 rd9, oMo o th n a e dn at9 dp po kd wh re pl base sg xt row ror xi xd np nw nr nb ns yt nrw x yi yd x9, aB G a 3000 B]
                                have q9 := nmb_R (B := B) (n := n) (i := ((at9 + 4) + (k * w))) (w := w) (lf := lf) (by assumption) (by omega) (by omega) (by omega)
                                have hz := nmb_R (B := B) (n := n) (i := at9 + 4 + k * w) (w := w) (lf := lf) hBb (by omega) (by omega) (by omega)
                                refine s_l2d X dX6_rows_277 ?_
                                refine s_iload_n X dX6_rows_278 rfl 4 rfl ?_
                                refine s_bipush 32 X dX6_rows_279 (by decide) ?_
                                refine s_icmp_ge X 288 dX6_rows_281 (by decide) (by omega) (fun c281 => ?_) (fun c281 => ?_)
                                · refine s_iload_n X dX6_rows_288 rfl 4 rfl ?_
                                  refine s_bipush 32 X dX6_rows_289 (by decide) ?_
                                  refine s_isub X dX6_rows_291 ?_
                                  refine s_callDS X lk_X6_174 [] [0, 1, 2, 3] (wr := [aI G yi 60 ri, aF G yd 60 rd9, oMo o th n a e dn at9 dp po kd wh re pl base sg xt row ror xi xd np nw nr nb ns yt nrw x yi yd x9, aB G a 3000 B]) rfl rfl (by decide) (by decide) (by decide) (c_X6_power (kl K) G (s - 32) (by omega)) dX6_rows_292 rfl rfl (Nat.le_of_ble_eq_true rfl) (by decide) (fun z10 w10 h10 => ?_)
                                  obtain ⟨rfl, rfl⟩ := h10
                                  show SW K G 8 0 0 295 [(7, .int (iI ((at9 + 4) + (k * w)))), (6, .int (iI k)), (5, .int (iI w)), (4, .int (iI mm)), (3, .int (iI s)), (2, .int (iI lf)), (1, .int (iI (bA B n (at9 + 1)))), (0, .ref o)] [.double (scl FP.dconst1 4611686018427387904 (s - 32)), .double (FP.l2d (lI (nmb B n ((at9 + 4) + (k * w)) w lf))), .int (iI k), .ref yd] [aI G yi 60 ri, aF G yd 60 rd9, oMo o th n a e dn at9 dp po kd wh re pl base sg xt row ror xi xd np nw nr nb ns yt nrw x yi yd x9, aB G a 3000 B]
                                  refine s_ddiv X dX6_rows_295 (by rw [fx_div (by omega) (by omega)]; exact n64_of (NN_scl2 (NN_i2d _) _)) ?_
                                  refine s_dast X dX6_rows_296 1 rfl (by omega) [aI G yi 60 ri, aF G yd 60 (uD rd9 k.toNat (FP.ddiv (FP.l2d (lI (nmb B n ((at9 + 4) + (k * w)) w lf))) (scl FP.dconst1 4611686018427387904 (s - 32)))), oMo o th n a e dn at9 dp po kd wh re pl base sg xt row ror xi xd np nw nr nb ns yt nrw x yi yd x9, aB G a 3000 B] rfl ?_
                                  refine s_goto X 317 dX6_rows_297 (by decide) ?_
                                  refine s_iinc (z := k + 1) X dX6_rows_317 1 rfl (by first | rfl | omega) [(6, .int (iI (k + 1))), (7, .int (iI ((at9 + 4) + (k * w)))), (5, .int (iI w)), (4, .int (iI mm)), (3, .int (iI s)), (2, .int (iI lf)), (1, .int (iI (bA B n (at9 + 1)))), (0, .ref o)] (by decide) rfl ?_
                                  refine s_goto X 204 dX6_rows_320 (by decide) ?_
                                  refine s_locs (lv' := [(6, .int (iI (k + 1))), (5, .int (iI w)), (4, .int (iI mm)), (3, .int (iI s)), (2, .int (iI lf)), (1, .int (iI (bA B n (at9 + 1)))), (0, .ref o)]) [0, 2, 3, 4, 5, 6, 7] rfl ?_
                                  refine s_perm (ws' := [oMo o th n a e dn at9 dp po kd wh re pl base sg xt row ror xi xd np nw nr nb ns yt nrw x yi yd x9, aB G a 3000 B, aI G yi 60 ri, aF G yd 60 (uD rd9 k.toNat (FP.ddiv (FP.l2d (lI (nmb B n ((at9 + 4) + (k * w)) w lf))) (scl FP.dconst1 4611686018427387904 (s - 32))))]) [2, 3, 0, 1] (by decide) rfl rfl ?_
                                  exact ih9 (k + 1) x9 ri (uD rd9 k.toNat (FP.ddiv (FP.l2d (lI (nmb B n ((at9 + 4) + (k * w)) w lf))) (scl FP.dconst1 4611686018427387904 (s - 32)))) (by omega) (Or.inr ⟨by omega, (g2.resolve_left (fun q => by omega)).2⟩) (rg_D g1.1 (by omega) g3 (rwD_fx hw hlf (by omega) hz (by omega))) (by omega)
                                · refine s_iload_n X dX6_rows_284 rfl 4 rfl ?_
                                  refine s_goto X 292 dX6_rows_285 (by decide) ?_
                                  refine s_callDS X lk_X6_174 [] [0, 1, 2, 3] (wr := [aI G yi 60 ri, aF G yd 60 rd9, oMo o th n a e dn at9 dp po kd wh re pl base sg xt row ror xi xd np nw nr nb ns yt nrw x yi yd x9, aB G a 3000 B]) rfl rfl (by decide) (by decide) (by decide) (c_X6_power (kl K) G s (by omega)) dX6_rows_292 rfl rfl (Nat.le_of_ble_eq_true rfl) (by decide) (fun z11 w11 h11 => ?_)
                                  obtain ⟨rfl, rfl⟩ := h11
                                  show SW K G 8 0 0 295 [(7, .int (iI ((at9 + 4) + (k * w)))), (6, .int (iI k)), (5, .int (iI w)), (4, .int (iI mm)), (3, .int (iI s)), (2, .int (iI lf)), (1, .int (iI (bA B n (at9 + 1)))), (0, .ref o)] [.double (scl FP.dconst1 4611686018427387904 s), .double (FP.l2d (lI (nmb B n ((at9 + 4) + (k * w)) w lf))), .int (iI k), .ref yd] [aI G yi 60 ri, aF G yd 60 rd9, oMo o th n a e dn at9 dp po kd wh re pl base sg xt row ror xi xd np nw nr nb ns yt nrw x yi yd x9, aB G a 3000 B]
                                  refine s_ddiv X dX6_rows_295 (by rw [fx_div (by omega) (by omega)]; exact n64_of (NN_scl2 (NN_i2d _) _)) ?_
                                  refine s_dast X dX6_rows_296 1 rfl (by omega) [aI G yi 60 ri, aF G yd 60 (uD rd9 k.toNat (FP.ddiv (FP.l2d (lI (nmb B n ((at9 + 4) + (k * w)) w lf))) (scl FP.dconst1 4611686018427387904 s))), oMo o th n a e dn at9 dp po kd wh re pl base sg xt row ror xi xd np nw nr nb ns yt nrw x yi yd x9, aB G a 3000 B] rfl ?_
                                  refine s_goto X 317 dX6_rows_297 (by decide) ?_
                                  refine s_iinc (z := k + 1) X dX6_rows_317 1 rfl (by first | rfl | omega) [(6, .int (iI (k + 1))), (7, .int (iI ((at9 + 4) + (k * w)))), (5, .int (iI w)), (4, .int (iI mm)), (3, .int (iI s)), (2, .int (iI lf)), (1, .int (iI (bA B n (at9 + 1)))), (0, .ref o)] (by decide) rfl ?_
                                  refine s_goto X 204 dX6_rows_320 (by decide) ?_
                                  refine s_locs (lv' := [(6, .int (iI (k + 1))), (5, .int (iI w)), (4, .int (iI mm)), (3, .int (iI s)), (2, .int (iI lf)), (1, .int (iI (bA B n (at9 + 1)))), (0, .ref o)]) [0, 2, 3, 4, 5, 6, 7] rfl ?_
                                  refine s_perm (ws' := [oMo o th n a e dn at9 dp po kd wh re pl base sg xt row ror xi xd np nw nr nb ns yt nrw x yi yd x9, aB G a 3000 B, aI G yi 60 ri, aF G yd 60 (uD rd9 k.toNat (FP.ddiv (FP.l2d (lI (nmb B n ((at9 + 4) + (k * w)) w lf))) (scl FP.dconst1 4611686018427387904 s)))]) [2, 3, 0, 1] (by decide) rfl rfl ?_
                                  exact ih9 (k + 1) x9 ri (uD rd9 k.toNat (FP.ddiv (FP.l2d (lI (nmb B n ((at9 + 4) + (k * w)) w lf))) (scl FP.dconst1 4611686018427387904 s))) (by omega) (Or.inr ⟨by omega, (g2.resolve_left (fun q => by omega)).2⟩) (rg_D g1.1 (by omega) g3 (rwD_fx hw hlf (by omega) hz (by omega))) (by omega)
                            · refine s_aload_n X dX6_rows_238 rfl 7 rfl ?_
                              refine s_get X dX6_rows_239 fl_X6_37 0 rfl rfl ?_
                              refine s_iload X dX6_rows_242 1 rfl ?_
                              refine s_aload_n X dX6_rows_244 rfl 7 rfl ?_
                              refine s_iload X dX6_rows_245 0 rfl ?_
                              refine s_iload_n X dX6_rows_247 rfl 5 rfl ?_
                              refine s_callDV X lk_X6_186 [0, 1] [2, 3] (wr := [aI G yi 60 ri, aF G yd 60 rd9]) rfl rfl (by decide) (by decide) (by decide) (c_X6_four (kl K) G o a po xt xi xd yt yi yd th n e dn at9 dp kd wh pl base sg row ror np nw nb ns nrw x x9 re nr B ((at9 + 4) + (k * w)) lf (by assumption) (by assumption) (by omega) (by omega) (by omega)) rfl rfl dX6_rows_248 rfl rfl (Nat.le_of_ble_eq_true rfl) (by decide) (fun z12 w12 h12 => ?_)
                              obtain ⟨inf212, rfl, rfl, f12_0⟩ := h12
                              show SW K G 8 0 0 251 [(7, .int (iI ((at9 + 4) + (k * w)))), (6, .int (iI k)), (5, .int (iI w)), (4, .int (iI mm)), (3, .int (iI s)), (2, .int (iI lf)), (1, .int (iI (bA B n (at9 + 1)))), (0, .ref o)] [.double (flV (nmb B n ((at9 + 4) + (k * w)) 4 lf)), .int (iI k), .ref yd] [aI G yi 60 ri, aF G yd 60 rd9, oMo o th n a e dn at9 dp po kd wh re pl base sg xt row ror xi xd np nw nr nb ns yt nrw x yi yd inf212, aB G a 3000 B]
                              have gI := f12_0
                              refine s_dast X dX6_rows_251 1 rfl (by omega) [aI G yi 60 ri, aF G yd 60 (uD rd9 k.toNat (flV (nmb B n ((at9 + 4) + (k * w)) 4 lf))), oMo o th n a e dn at9 dp po kd wh re pl base sg xt row ror xi xd np nw nr nb ns yt nrw x yi yd inf212, aB G a 3000 B] rfl ?_
                              refine s_goto X 317 dX6_rows_252 (by decide) ?_
                              refine s_iinc (z := k + 1) X dX6_rows_317 1 rfl (by first | rfl | omega) [(6, .int (iI (k + 1))), (7, .int (iI ((at9 + 4) + (k * w)))), (5, .int (iI w)), (4, .int (iI mm)), (3, .int (iI s)), (2, .int (iI lf)), (1, .int (iI (bA B n (at9 + 1)))), (0, .ref o)] (by decide) rfl ?_
                              refine s_goto X 204 dX6_rows_320 (by decide) ?_
                              refine s_locs (lv' := [(6, .int (iI (k + 1))), (5, .int (iI w)), (4, .int (iI mm)), (3, .int (iI s)), (2, .int (iI lf)), (1, .int (iI (bA B n (at9 + 1)))), (0, .ref o)]) [0, 2, 3, 4, 5, 6, 7] rfl ?_
                              refine s_perm (ws' := [oMo o th n a e dn at9 dp po kd wh re pl base sg xt row ror xi xd np nw nr nb ns yt nrw x yi yd inf212, aB G a 3000 B, aI G yi 60 ri, aF G yd 60 (uD rd9 k.toNat (flV (nmb B n ((at9 + 4) + (k * w)) 4 lf)))]) [2, 3, 0, 1] (by decide) rfl rfl ?_
                              exact ih9 (k + 1) inf212 ri (uD rd9 k.toNat (flV (nmb B n ((at9 + 4) + (k * w)) 4 lf))) (by omega) (Or.inl ⟨by omega, in_step g1.1 hw hlf (by omega) (g2.resolve_right (fun q => q.1 (by omega))).2 gI⟩) (rg_D g1.1 (Or.inl (by omega)) g3 (rwD_fl hw hlf (by omega))) (by omega)
                    refine s_perm (ws' := [oMo o th n a e dn at9 dp po kd wh re pl base sg xt row ror xi xd np nw nr nb ns yt nrw x yi yd inf9, aB G a 3000 B, aI G yi 60 qi, aF G yd 60 qd]) [3, 2, 0, 1] (by decide) rfl rfl ?_
                    exact lp _ 0 inf9 qi qd (by omega) (in_0 hif0) (fun j a1 a2 => by omega) (Nat.lt_succ_self _)
                  refine s_aload_n X dX6_rows_182 rfl 5 rfl ?_
                  refine s_iload_n X dX6_rows_183 rfl 2 rfl ?_
                  refine s_if_eq X 197 dX6_rows_184 (by decide) (by omega) (fun c184 => ?_) (fun c184 => ?_)
                  · refine s_iconst X dX6_rows_197 ?_
                    exact j198 0 (by omega)
                  · refine s_iload_n X dX6_rows_187 rfl 2 rfl ?_
                    refine s_bipush 32 X dX6_rows_188 (by decide) ?_
                    refine s_icmp_eq X 197 dX6_rows_190 (by decide) (by omega) (fun c190 => ?_) (fun c190 => ?_)
                    · refine s_iconst X dX6_rows_197 ?_
                      exact j198 0 (by omega)
                    · refine s_iconst X dX6_rows_193 ?_
                      refine s_goto X 198 dX6_rows_194 (by decide) ?_
                      exact j198 1 (by omega)
                · refine s_aload_n X dX6_rows_177 rfl 5 rfl ?_
                  refine s_callIV X lk_X6_132 [3] [0, 1, 2] (wr := [aI G yi 60 qi, aF G yd 60 qd, aB G a 3000 B]) rfl rfl (by decide) (by decide) (by decide) (c_X6_lacking (kl K) G o a po xt xi xd yt yi yd th n e dn at9 dp kd wh pl base sg row ror np nw nb ns nrw nir inf9 re nr (by omega)) rfl rfl dX6_rows_178 rfl rfl (Nat.le_of_ble_eq_true rfl) (by decide) (fun z13 w13 h13 => ?_)
                  obtain ⟨rfl, rfl⟩ := h13
                  show SW K G 8 0 0 181 [(5, .int (iI w)), (4, .int (iI mm)), (3, .int (iI s)), (2, .int (iI lf)), (1, .int (iI (bA B n (at9 + 1)))), (0, .ref o)] [.int (iI (if e = 0 then 0 else -7))] [aI G yi 60 qi, aF G yd 60 qd, aB G a 3000 B, oMo o th n a e dn (if e = 0 then at9 else n) dp po kd wh re pl base sg xt row ror xi xd np nw nr nb ns yt nrw nir yi yd inf9]
                  refine s_perm (ws' := [oMo o th n a e dn (if e = 0 then at9 else n) dp po kd wh re pl base sg xt row ror xi xd np nw nr nb ns yt nrw nir yi yd inf9, aB G a 3000 B, aI G yi 60 qi, aF G yd 60 qd]) [3, 2, 0, 1] (by decide) rfl rfl ?_
                  refine s_iret X Y dX6_rows_181 (rfl) ?_
                  refine ⟨(if e = 0 then at9 else n), np, nw, nrw, nir, inf9, qi, qd, ?_, rfl, ?_, ?_, ?_⟩
                  · (first | (exfalso; omega) | (exact (nuA_n (by omega)).trans (rw_s e (by omega) (by omega) hmm hw).1.symm))
                  · (first | (exfalso; omega) | (intro h; have hh := rw_s (B := B) e (by omega) (by omega) hmm hw; rw [hh.2.1, hh.2.2]; exact ⟨lk_n (by omega) h, hnp⟩))
                  · (first | (exfalso; omega) | (intro h; exact absurd h (by split <;> decide)))
                  · (first | (exfalso; omega) | (exact Or.inl rfl))
              refine s_iload_n X dX6_rows_144 rfl 1 rfl ?_
              refine s_bipush 32 X dX6_rows_145 (by decide) ?_
              refine s_icmp_lt X 156 dX6_rows_147 (by decide) (by omega) (fun c147 => ?_) (fun c147 => ?_)
              · refine s_iconst X dX6_rows_156 ?_
                refine s_goto X 161 dX6_rows_157 (by decide) ?_
                exact j161 4 (by have h9 := wO_C (bA B n (at9 + 1)); omega)
              · refine s_iload_n X dX6_rows_150 rfl 1 rfl ?_
                refine s_bipush 48 X dX6_rows_151 (by decide) ?_
                refine s_icmp_ne X 160 dX6_rows_153 (by decide) (by omega) (fun c153 => ?_) (fun c153 => ?_)
                · refine s_iconst X dX6_rows_160 ?_
                  exact j161 2 (by have h9 := wO_C (bA B n (at9 + 1)); omega)
                · refine s_iconst X dX6_rows_156 ?_
                  refine s_goto X 161 dX6_rows_157 (by decide) ?_
                  exact j161 4 (by have h9 := wO_C (bA B n (at9 + 1)); omega)
            refine s_iload_n X dX6_rows_85 rfl 1 rfl ?_
            refine s_if_eq X 117 dX6_rows_86 (by decide) (by omega) (fun c86 => ?_) (fun c86 => ?_)
            · refine s_sipush 256 X dX6_rows_117 (by decide) ?_
              refine s_aload_n X dX6_rows_120 rfl 3 rfl ?_
              refine s_aload_n X dX6_rows_121 rfl 3 rfl ?_
              refine s_get X dX6_rows_122 fl_X6_102 3 rfl rfl ?_
              refine s_iconst X dX6_rows_125 ?_
              refine s_iadd X dX6_rows_126 ?_
              refine s_callIV X lk_X6_63 [3, 2] [0, 1] (wr := [aI G yi 60 qi, aF G yd 60 qd]) rfl rfl (by decide) (by decide) (by decide) (c_X6_byteAt (kl K) G o a po xt xi xd yt yi yd th n e dn at9 dp kd wh pl base sg row ror np nw nb ns nrw nir inf9 re nr B (at9 + 2) (by assumption) (by assumption) (by omega)) rfl rfl dX6_rows_127 rfl rfl (Nat.le_of_ble_eq_true rfl) (by decide) (fun z14 w14 h14 => ?_)
              obtain ⟨rfl, rfl⟩ := h14
              show SW K G 8 0 0 130 [(3, .int (iI s)), (2, .int (iI lf)), (1, .int (iI (bA B n (at9 + 1)))), (0, .ref o)] [.int (iI (bA B n (at9 + 2))), .int (iI 256)] [aI G yi 60 qi, aF G yd 60 qd, oMo o th n a e dn at9 dp po kd wh re pl base sg xt row ror xi xd np nw nr nb ns yt nrw nir yi yd inf9, aB G a 3000 B]
              have q15 := bA_C n (at9 + 2) (by assumption : ∀ j, B j < 256)
              refine s_imul X dX6_rows_130 ?_
              refine s_aload_n X dX6_rows_131 rfl 3 rfl ?_
              refine s_aload_n X dX6_rows_132 rfl 3 rfl ?_
              refine s_get X dX6_rows_133 fl_X6_102 2 rfl rfl ?_
              refine s_iconst X dX6_rows_136 ?_
              refine s_iadd X dX6_rows_137 ?_
              refine s_callIV X lk_X6_63 [2, 3] [0, 1] (wr := [aI G yi 60 qi, aF G yd 60 qd]) rfl rfl (by decide) (by decide) (by decide) (c_X6_byteAt (kl K) G o a po xt xi xd yt yi yd th n e dn at9 dp kd wh pl base sg row ror np nw nb ns nrw nir inf9 re nr B (at9 + 3) (by assumption) (by assumption) (by omega)) rfl rfl dX6_rows_138 rfl rfl (Nat.le_of_ble_eq_true rfl) (by decide) (fun z16 w16 h16 => ?_)
              obtain ⟨rfl, rfl⟩ := h16
              show SW K G 8 0 0 141 [(3, .int (iI s)), (2, .int (iI lf)), (1, .int (iI (bA B n (at9 + 1)))), (0, .ref o)] [.int (iI (bA B n (at9 + 3))), .int (iI (256 * (bA B n (at9 + 2))))] [aI G yi 60 qi, aF G yd 60 qd, oMo o th n a e dn at9 dp po kd wh re pl base sg xt row ror xi xd np nw nr nb ns yt nrw nir yi yd inf9, aB G a 3000 B]
              have q17 := bA_C n (at9 + 3) (by assumption : ∀ j, B j < 256)
              refine s_iadd X dX6_rows_141 ?_
              refine s_perm (ws' := [aI G yi 60 qi, aF G yd 60 qd, aB G a 3000 B, oMo o th n a e dn at9 dp po kd wh re pl base sg xt row ror xi xd np nw nr nb ns yt nrw nir yi yd inf9]) [0, 1, 3, 2] (by decide) rfl rfl ?_
              exact j142 ((256 * (bA B n (at9 + 2))) + (bA B n (at9 + 3))) (by have h9 := lfO_C (bA B n (at9 + 1)); first | (rw [rwM_1 (by omega)]; done) | (rw [rwM_0 (by omega)]; done))
            · refine s_aload_n X dX6_rows_89 rfl 3 rfl ?_
              refine s_aload_n X dX6_rows_90 rfl 3 rfl ?_
              refine s_get X dX6_rows_91 fl_X6_102 3 rfl rfl ?_
              refine s_iconst X dX6_rows_94 ?_
              refine s_iadd X dX6_rows_95 ?_
              refine s_callIV X lk_X6_63 [3, 2] [0, 1] (wr := [aI G yi 60 qi, aF G yd 60 qd]) rfl rfl (by decide) (by decide) (by decide) (c_X6_byteAt (kl K) G o a po xt xi xd yt yi yd th n e dn at9 dp kd wh pl base sg row ror np nw nb ns nrw nir inf9 re nr B (at9 + 2) (by assumption) (by assumption) (by omega)) rfl rfl dX6_rows_96 rfl rfl (Nat.le_of_ble_eq_true rfl) (by decide) (fun z18 w18 h18 => ?_)
              obtain ⟨rfl, rfl⟩ := h18
              show SW K G 8 0 0 99 [(3, .int (iI s)), (2, .int (iI lf)), (1, .int (iI (bA B n (at9 + 1)))), (0, .ref o)] [.int (iI (bA B n (at9 + 2)))] [aI G yi 60 qi, aF G yd 60 qd, oMo o th n a e dn at9 dp po kd wh re pl base sg xt row ror xi xd np nw nr nb ns yt nrw nir yi yd inf9, aB G a 3000 B]
              have q19 := bA_C n (at9 + 2) (by assumption : ∀ j, B j < 256)
              refine s_sipush 256 X dX6_rows_99 (by decide) ?_
              refine s_aload_n X dX6_rows_102 rfl 3 rfl ?_
              refine s_aload_n X dX6_rows_103 rfl 3 rfl ?_
              refine s_get X dX6_rows_104 fl_X6_102 2 rfl rfl ?_
              refine s_iconst X dX6_rows_107 ?_
              refine s_iadd X dX6_rows_108 ?_
              refine s_callIV X lk_X6_63 [2, 3] [0, 1] (wr := [aI G yi 60 qi, aF G yd 60 qd]) rfl rfl (by decide) (by decide) (by decide) (c_X6_byteAt (kl K) G o a po xt xi xd yt yi yd th n e dn at9 dp kd wh pl base sg row ror np nw nb ns nrw nir inf9 re nr B (at9 + 3) (by assumption) (by assumption) (by omega)) rfl rfl dX6_rows_109 rfl rfl (Nat.le_of_ble_eq_true rfl) (by decide) (fun z20 w20 h20 => ?_)
              obtain ⟨rfl, rfl⟩ := h20
              show SW K G 8 0 0 112 [(3, .int (iI s)), (2, .int (iI lf)), (1, .int (iI (bA B n (at9 + 1)))), (0, .ref o)] [.int (iI (bA B n (at9 + 3))), .int (iI 256), .int (iI (bA B n (at9 + 2)))] [aI G yi 60 qi, aF G yd 60 qd, oMo o th n a e dn at9 dp po kd wh re pl base sg xt row ror xi xd np nw nr nb ns yt nrw nir yi yd inf9, aB G a 3000 B]
              have q21 := bA_C n (at9 + 3) (by assumption : ∀ j, B j < 256)
              refine s_imul X dX6_rows_112 ?_
              refine s_iadd X dX6_rows_113 ?_
              refine s_goto X 142 dX6_rows_114 (by decide) ?_
              refine s_perm (ws' := [aI G yi 60 qi, aF G yd 60 qd, aB G a 3000 B, oMo o th n a e dn at9 dp po kd wh re pl base sg xt row ror xi xd np nw nr nb ns yt nrw nir yi yd inf9]) [0, 1, 3, 2] (by decide) rfl rfl ?_
              exact j142 ((bA B n (at9 + 2)) + (256 * (bA B n (at9 + 3)))) (by have h9 := lfO_C (bA B n (at9 + 1)); first | (rw [rwM_1 (by omega)]; done) | (rw [rwM_0 (by omega)]; done))
          · refine s_aload_n X dX6_rows_80 rfl 3 rfl ?_
            refine s_callIV X lk_X6_132 [3] [0, 1, 2] (wr := [aI G yi 60 qi, aF G yd 60 qd, aB G a 3000 B]) rfl rfl (by decide) (by decide) (by decide) (c_X6_lacking (kl K) G o a po xt xi xd yt yi yd th n e dn at9 dp kd wh pl base sg row ror np nw nb ns nrw nir inf9 re nr (by omega)) rfl rfl dX6_rows_81 rfl rfl (Nat.le_of_ble_eq_true rfl) (by decide) (fun z22 w22 h22 => ?_)
            obtain ⟨rfl, rfl⟩ := h22
            show SW K G 8 0 0 84 [(3, .int (iI s)), (2, .int (iI lf)), (1, .int (iI (bA B n (at9 + 1)))), (0, .ref o)] [.int (iI (if e = 0 then 0 else -7))] [aI G yi 60 qi, aF G yd 60 qd, aB G a 3000 B, oMo o th n a e dn (if e = 0 then at9 else n) dp po kd wh re pl base sg xt row ror xi xd np nw nr nb ns yt nrw nir yi yd inf9]
            refine s_perm (ws' := [oMo o th n a e dn (if e = 0 then at9 else n) dp po kd wh re pl base sg xt row ror xi xd np nw nr nb ns yt nrw nir yi yd inf9, aB G a 3000 B, aI G yi 60 qi, aF G yd 60 qd]) [3, 2, 0, 1] (by decide) rfl rfl ?_
            refine s_iret X Y dX6_rows_84 (rfl) ?_
            refine ⟨(if e = 0 then at9 else n), np, nw, nrw, nir, inf9, qi, qd, ?_, rfl, ?_, ?_, ?_⟩
            · (first | (exfalso; omega) | (exact (rw_lk e (by omega) (by omega)).1.symm))
            · (first | (exfalso; omega) | (intro h; have hh := rw_lk (B := B) (n := n) (p := at9) e (by omega) (by omega); rw [hh.2.1, hh.2.2]; exact ⟨lk_e h, hnp⟩))
            · (first | (exfalso; omega) | (intro h; exact absurd h (by split <;> decide)))
            · (first | (exfalso; omega) | (exact Or.inl rfl))
        · refine s_aload_n X dX6_rows_56 rfl 3 rfl ?_
          refine s_dup X dX6_rows_57 rfl ?_
          refine s_get X dX6_rows_58 fl_X6_102 2 rfl rfl ?_
          refine s_iconst X dX6_rows_61 ?_
          refine s_iadd X dX6_rows_62 ?_
          refine s_put X dX6_rows_63 fl_X6_102 tyX6_ok nmX6 2 rfl rfl (rfl) (rfl) (Nat.le_of_ble_eq_true rfl) [aI G yi 60 qi, aF G yd 60 qd, oMo o th n a e dn (at9 + 1) dp po kd wh re pl base sg xt row ror xi xd np nw nr nb ns yt nrw nir yi yd inf9, aB G a 3000 B] rfl ?_
          refine s_aload_n X dX6_rows_66 rfl 3 rfl ?_
          refine s_iconst X dX6_rows_67 ?_
          refine s_callIV X lk_X6_138 [2] [0, 1, 3] (wr := [aI G yi 60 qi, aF G yd 60 qd, aB G a 3000 B]) rfl rfl (by decide) (by decide) (by decide) (c_X6_wrongByte (kl K) G o a po xt xi xd yt yi yd th n e dn (at9 + 1) dp kd wh pl base sg row ror np nw nb ns nrw nir inf9 re nr 4) rfl rfl dX6_rows_68 rfl rfl (Nat.le_of_ble_eq_true rfl) (by decide) (fun z23 w23 h23 => ?_)
          obtain ⟨rfl, rfl⟩ := h23
          show SW K G 8 0 0 71 [(3, .int (iI s)), (2, .int (iI lf)), (1, .int (iI (bA B n (at9 + 1)))), (0, .ref o)] [.int (iI (-1 - 4))] [aI G yi 60 qi, aF G yd 60 qd, aB G a 3000 B, oMo o th n a e dn ((at9 + 1) + 1) dp po kd wh re pl base sg xt row ror xi xd (at9 + 1) nw nr nb ns yt nrw nir yi yd inf9]
          refine s_perm (ws' := [oMo o th n a e dn ((at9 + 1) + 1) dp po kd wh re pl base sg xt row ror xi xd (at9 + 1) nw nr nb ns yt nrw nir yi yd inf9, aB G a 3000 B, aI G yi 60 qi, aF G yd 60 qd]) [3, 2, 0, 1] (by decide) rfl rfl ?_
          refine s_iret X Y dX6_rows_71 (rfl) ?_
          refine ⟨((at9 + 1) + 1), (at9 + 1), nw, nrw, nir, inf9, qi, qd, ?_, rfl, ?_, ?_, ?_⟩
          · (first | (exfalso; omega) | (exact (rw_wr e (by omega)).1.symm))
          · (first | (exfalso; omega) | (intro _; have hh := rw_wr (B := B) (n := n) (p := at9) e (by omega); rw [hh.2.1, hh.2.2]; exact ⟨by omega, rfl⟩))
          · (first | (exfalso; omega) | (intro h; exact absurd h (by decide)))
          · (first | (exfalso; omega) | (exact Or.inl rfl))
      refine s_iload_n X dX6_rows_36 rfl 0 rfl ?_
      refine s_if_eq X 48 dX6_rows_37 (by decide) (by omega) (fun c37 => ?_) (fun c37 => ?_)
      · refine s_iload_n X dX6_rows_48 rfl 1 rfl ?_
        exact j49 (bA B n (at9 + 1)) (by have h9 := lfO_C (bA B n (at9 + 1)); omega)
      · refine s_iload_n X dX6_rows_40 rfl 1 rfl ?_
        refine s_sipush 128 X dX6_rows_41 (by decide) ?_
        refine s_isub X dX6_rows_44 ?_
        refine s_goto X 49 dX6_rows_45 (by decide) ?_
        exact j49 ((bA B n (at9 + 1)) - 128) (by have h9 := lfO_C (bA B n (at9 + 1)); omega)
    refine s_iload_n X dX6_rows_24 rfl 0 rfl ?_
    refine s_bipush 127 X dX6_rows_25 (by decide) ?_
    refine s_icmp_le X 34 dX6_rows_27 (by decide) (by omega) (fun c27 => ?_) (fun c27 => ?_)
    · refine s_iconst X dX6_rows_34 ?_
      exact j35 0 (by have h9 := lfO_C (bA B n (at9 + 1)); omega)
    · refine s_iconst X dX6_rows_30 ?_
      refine s_goto X 35 dX6_rows_31 (by decide) ?_
      exact j35 1 (by have h9 := lfO_C (bA B n (at9 + 1)); omega)
  · refine s_aload_n X dX6_rows_8 rfl 0 rfl ?_
    refine s_callIV X lk_X6_132 [3] [0, 1, 2] (wr := [aB G a 3000 B, aI G yi 60 qi, aF G yd 60 qd]) rfl rfl (by decide) (by decide) (by decide) (c_X6_lacking (kl K) G o a po xt xi xd yt yi yd th n e dn at9 dp kd wh pl base sg row ror np nw nb ns nrw nir inf9 re nr (by omega)) rfl rfl dX6_rows_9 rfl rfl (Nat.le_of_ble_eq_true rfl) (by decide) (fun z24 w24 h24 => ?_)
    obtain ⟨rfl, rfl⟩ := h24
    show SW K G 8 0 0 12 [(0, .ref o)] [.int (iI (if e = 0 then 0 else -7))] [aB G a 3000 B, aI G yi 60 qi, aF G yd 60 qd, oMo o th n a e dn (if e = 0 then at9 else n) dp po kd wh re pl base sg xt row ror xi xd np nw nr nb ns yt nrw nir yi yd inf9]
    refine s_perm (ws' := [oMo o th n a e dn (if e = 0 then at9 else n) dp po kd wh re pl base sg xt row ror xi xd np nw nr nb ns yt nrw nir yi yd inf9, aB G a 3000 B, aI G yi 60 qi, aF G yd 60 qd]) [3, 0, 1, 2] (by decide) rfl rfl ?_
    refine s_iret X Y dX6_rows_12 (rfl) ?_
    refine ⟨(if e = 0 then at9 else n), np, nw, nrw, nir, inf9, qi, qd, ?_, rfl, ?_, ?_, ?_⟩
    · (first | (exfalso; omega) | (exact (rw_lk e (by omega) (by omega)).1.symm))
    · (first | (exfalso; omega) | (intro h; have hh := rw_lk (B := B) (n := n) (p := at9) e (by omega) (by omega); rw [hh.2.1, hh.2.2]; exact ⟨lk_e h, hnp⟩))
    · (first | (exfalso; omega) | (intro h; exact absurd h (by split <;> decide)))
    · (first | (exfalso; omega) | (exact Or.inl rfl))
