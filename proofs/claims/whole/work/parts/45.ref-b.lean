set_option maxRecDepth 100000 in
set_option maxHeartbeats 4000000 in
theorem c_X6_isInteger (l : Launch) (G : GX) (o : Nat) (a : Nat) (po : Nat) (xt : Nat) (xi : Nat) (xd : Nat) (yt : Nat) (yi : Nat) (yd : Nat) (th : Int) (n : Int) (e : Int) (dn : Int) (at9 : Int) (dp : Int) (kd : Int) (wh : Int) (pl : Int) (base : Int) (sg : Int) (row : Int) (ror : Int) (np : Int) (nw : Int) (nb : Int) (ns : Int) (nrw : Int) (nir : Int) (inf9 : Int) (re : UInt64) (nr : UInt64) (B : Nat → Nat) (f : Int) (j : Int) (hn : 0 ≤ n ∧ n ≤ 3000) (hBb : ∀ j, B j < 256) (hfj : 0 ≤ f ∧ f < j ∧ j ≤ n) : CtI l G yX6_isInteger cX6_isInteger 7 (some .boolean) ({ frames := 2, cells := 0, slots := 0, locals := 44 } : Room) [.ref o, .int (iI f), .int (iI j)] [oMo o th n a e dn at9 dp po kd wh re pl base sg xt row ror xi xd np nw nr nb ns yt nrw nir yi yd inf9, aB G a 3000 B] (fun (z9 : Int) (w9 : va_W) => ∃ (nw2 : Int), ∃ (nb2 : Int), z9 = (tf (riC (wd B f j) (j - f))) ∧ w9 = [oMo o th n a e dn at9 dp po kd wh re pl base sg xt row ror xi xd np nw2 nr nb2 ns yt nrw nir yi yd inf9, aB G a 3000 B] ∧ (riC (wd B f j) (j - f) → nw2 = riV (wd B f j) (j - f) ∧ nb2 = 10)) := by
  intro sz
  refine met_of (fun wc sz => va_Qi (qI _) (posW G wc sz) (va_A wc sz)) (by decide) [(0, .ref o), (1, .int (iI f)), (2, .int (iI j))] rfl (Nat.le_of_ble_eq_true rfl) (fun K hK9 hnm X Y => ?_)
  subst hK9
  replace Y : RI K G (some .boolean) 0 0 _ := Y
  have b9 := bs_R (wd B f j) 0
  refine s_aload_n X dX6_isInteger_0 rfl 0 rfl ?_
  refine s_iload_n X dX6_isInteger_1 rfl 1 rfl ?_
  refine s_callIV X lk_X6_63 [0, 1] [] (wr := []) rfl rfl (by decide) (by decide) (by decide) (c_X6_byteAt (kl K) G o a po xt xi xd yt yi yd th n e dn at9 dp kd wh pl base sg row ror np nw nb ns nrw nir inf9 re nr B f (by assumption) (by assumption) (by omega)) rfl rfl dX6_isInteger_2 rfl rfl (Nat.le_of_ble_eq_true rfl) (by decide) (fun z1 w1 h1 => ?_)
  obtain ⟨rfl, rfl⟩ := h1
  show SW K G 7 0 0 5 [(0, .ref o), (1, .int (iI f)), (2, .int (iI j))] [.int (iI (bA B n f))] [oMo o th n a e dn at9 dp po kd wh re pl base sg xt row ror xi xd np nw nr nb ns yt nrw nir yi yd inf9, aB G a 3000 B]
  have q2 := bA_C n f (by assumption : ∀ j, B j < 256)
  have e0_1 : bA B n f = wd B f j 0 := by have h9 := wd_bA (B := B) (n := n) (i := f) (j := j) (x := f) (by omega); rwa [Int.sub_self] at h9
  refine s_bipush 45 X dX6_isInteger_5 (by decide) ?_
  have j39 : ∀ (ls : Int) (k : Int) (hl : (ls = 1 ∧ (wd B f j) 0 = 45) ∨ (ls = 0 ∧ ¬ (wd B f j) 0 = 45)) (hk : k - f = bs (wd B f j) 0), SW K G 7 0 0 39 [(3, .int (iI ls)), (4, .int (iI k)), (0, .ref o), (1, .int (iI f)), (2, .int (iI j))] [] [oMo o th n a e dn at9 dp po kd wh re pl base sg xt row ror xi xd np nw nr nb ns yt nrw nir yi yd inf9, aB G a 3000 B] := by
    intro ls k hl hk
    refine s_iload X dX6_isInteger_39 1 rfl ?_
    refine s_iload_n X dX6_isInteger_41 rfl 4 rfl ?_
    refine s_icmp_eq X 59 dX6_isInteger_42 (by decide) (by omega) (fun c42 => ?_) (fun c42 => ?_)
    · refine s_iconst X dX6_isInteger_59 ?_
      refine s_iret X Y dX6_isInteger_60 (rfl) ?_
      refine ⟨nw, nb, ?_, rfl, ?_⟩
      · (first | (exfalso; omega) | (refine (tf_f (fun h => ?_)).symm; obtain ⟨h1, h2, -⟩ := h; first | (rw [hk] at c56; omega) | omega))
      · (first | (exfalso; omega) | (intro h; exfalso; obtain ⟨h1, h2, -⟩ := h; first | (rw [hk] at c56; omega) | omega))
    · refine s_aload_n X dX6_isInteger_45 rfl 2 rfl ?_
      refine s_iload X dX6_isInteger_46 1 rfl ?_
      refine s_iload_n X dX6_isInteger_48 rfl 4 rfl ?_
      refine s_callIV X lk_X6_67 [0, 1] [] (wr := []) rfl rfl (by decide) (by decide) (by decide) (c_X6_digitsFrom (kl K) G o a po xt xi xd yt yi yd th n e dn at9 dp kd wh pl base sg row ror np nw nb ns nrw nir inf9 re nr B f k j (by assumption) (by assumption) (by omega)) rfl rfl dX6_isInteger_49 rfl rfl (Nat.le_of_ble_eq_true rfl) (by decide) (fun z3 w3 h3 => ?_)
      obtain ⟨rfl, rfl⟩ := h3
      show SW K G 7 0 0 52 [(3, .int (iI ls)), (4, .int (iI k)), (0, .ref o), (1, .int (iI f)), (2, .int (iI j))] [.int (iI (de (wd B f j) (j - f) 10 (k - f) - (k - f)))] [oMo o th n a e dn at9 dp po kd wh re pl base sg xt row ror xi xd np nw nr nb ns yt nrw nir yi yd inf9, aB G a 3000 B]
      have q4 := de_C (wd B f j) (j - f) 10 (k - f)
      refine s_iload_n X dX6_isInteger_52 rfl 4 rfl ?_
      refine s_iload X dX6_isInteger_53 1 rfl ?_
      refine s_isub X dX6_isInteger_55 ?_
      refine s_icmp_eq X 61 dX6_isInteger_56 (by decide) (by omega) (fun c56 => ?_) (fun c56 => ?_)
      · refine s_lconst0 X dX6_isInteger_61 ?_
        refine s_lstore X dX6_isInteger_62 [(5, .long (lI 0)), (3, .int (iI ls)), (4, .int (iI k)), (0, .ref o), (1, .int (iI f)), (2, .int (iI j))] (by decide) rfl ?_
        have lp : ∀ (m9 : Nat) (kk : Int) (v : Int) (h1 : k ≤ kk ∧ kk ≤ j ∧ 0 ≤ v ∧ v ≤ 42949672969) (h2 : vo (wd B f j) 10 (kk - f) (j - f) (sat v) = riS (wd B f j) (j - f)), (j - kk).toNat < m9 → SW K G 7 0 0 64 [(4, .int (iI kk)), (5, .long (lI v)), (3, .int (iI ls)), (0, .ref o), (1, .int (iI f)), (2, .int (iI j))] [] [oMo o th n a e dn at9 dp po kd wh re pl base sg xt row ror xi xd np nw nr nb ns yt nrw nir yi yd inf9, aB G a 3000 B] := by
          intro m9
          induction m9 with
          | zero => intro kk v h1 h2 hm9; exact absurd hm9 (Nat.not_lt_zero _)
          | succ m9 ih9 =>
            intro kk v h1 h2 hm9
            have hd : ∀ x, bs (wd B f j) 0 ≤ x → x < (j - f) → dg ((wd B f j) x) < 10 := de_dg _ _ rfl (by rw [← hk]; omega)
            refine s_iload X dX6_isInteger_64 0 rfl ?_
            refine s_iload_n X dX6_isInteger_66 rfl 5 rfl ?_
            refine s_icmp_ge X 110 dX6_isInteger_67 (by decide) (by omega) (fun c67 => ?_) (fun c67 => ?_)
            · have j122 : ∀ (y : Int) (hy : (ls = 1 ∧ y = -v) ∨ (ls = 0 ∧ y = v)), SW K G 7 0 0 122 [(4, .int (iI kk)), (5, .long (lI v)), (3, .int (iI ls)), (0, .ref o), (1, .int (iI f)), (2, .int (iI j))] [.long (lI y)] [oMo o th n a e dn at9 dp po kd wh re pl base sg xt row ror xi xd np nw nr nb ns yt nrw nir yi yd inf9, aB G a 3000 B] := by
                intro y hy
                have hS : riS (wd B f j) (j - f) = sat v := by rw [← h2, vo_out (by omega)]
                have hV := riV_C (wd B f j) (j - f)
                have hs9 := sat_C v
                refine s_lstore X dX6_isInteger_122 [(5, .long (lI y)), (4, .int (iI kk)), (3, .int (iI ls)), (0, .ref o), (1, .int (iI f)), (2, .int (iI j))] (by decide) rfl ?_
                refine s_aload_n X dX6_isInteger_124 rfl 3 rfl ?_
                refine s_lload X dX6_isInteger_125 0 rfl ?_
                refine s_put X dX6_isInteger_127 fl_X6_77 tyX6_ok nmX6 0 rfl rfl (rfl) (rfl) (Nat.le_of_ble_eq_true rfl) [oMo o th n a e dn at9 dp po kd wh re pl base sg xt row ror xi xd np y nr nb ns yt nrw nir yi yd inf9, aB G a 3000 B] rfl ?_
                refine s_aload_n X dX6_isInteger_130 rfl 3 rfl ?_
                refine s_bipush 10 X dX6_isInteger_131 (by decide) ?_
                refine s_put X dX6_isInteger_133 fl_X6_81 tyX6_ok nmX6 0 rfl rfl (rfl) (rfl) (Nat.le_of_ble_eq_true rfl) [oMo o th n a e dn at9 dp po kd wh re pl base sg xt row ror xi xd np y nr 10 ns yt nrw nir yi yd inf9, aB G a 3000 B] rfl ?_
                refine s_lload X dX6_isInteger_136 0 rfl ?_
                refine s_ldc2 (-2147483648) X dX6_isInteger_138 tg868 (by decide) ?_
                refine s_lif_lt X 158 dX6_isInteger_141 dX6_isInteger_142 (by decide) (by omega) (fun c141 => ?_) (fun c141 => ?_)
                · refine s_iconst X dX6_isInteger_158 ?_
                  refine s_iret X Y dX6_isInteger_159 (rfl) ?_
                  refine ⟨y, 10, ?_, rfl, ?_⟩
                  · (first | (exfalso; omega) | (first | exact (tf_t ⟨by omega, by rw [← hk]; omega, by omega, by omega⟩).symm | exact (tf_f (fun h => by have := h.2.2; omega)).symm))
                  · (first | (exfalso; omega) | (intro h; exact ⟨by have := h.2.2; omega, rfl⟩))
                · refine s_lload X dX6_isInteger_145 0 rfl ?_
                  refine s_ldc2 2147483647 X dX6_isInteger_147 tg869 (by decide) ?_
                  refine s_lif_gt X 158 dX6_isInteger_150 dX6_isInteger_151 (by decide) (by omega) (fun c150 => ?_) (fun c150 => ?_)
                  · refine s_iconst X dX6_isInteger_158 ?_
                    refine s_iret X Y dX6_isInteger_159 (rfl) ?_
                    refine ⟨y, 10, ?_, rfl, ?_⟩
                    · (first | (exfalso; omega) | (first | exact (tf_t ⟨by omega, by rw [← hk]; omega, by omega, by omega⟩).symm | exact (tf_f (fun h => by have := h.2.2; omega)).symm))
                    · (first | (exfalso; omega) | (intro h; exact ⟨by have := h.2.2; omega, rfl⟩))
                  · refine s_iconst X dX6_isInteger_154 ?_
                    refine s_goto X 159 dX6_isInteger_155 (by decide) ?_
                    refine s_iret X Y dX6_isInteger_159 (rfl) ?_
                    refine ⟨y, 10, ?_, rfl, ?_⟩
                    · (first | (exfalso; omega) | (first | exact (tf_t ⟨by omega, by rw [← hk]; omega, by omega, by omega⟩).symm | exact (tf_f (fun h => by have := h.2.2; omega)).symm))
                    · (first | (exfalso; omega) | (intro h; exact ⟨by have := h.2.2; omega, rfl⟩))
              refine s_iload_n X dX6_isInteger_110 rfl 2 rfl ?_
              refine s_if_eq X 120 dX6_isInteger_111 (by decide) (by omega) (fun c111 => ?_) (fun c111 => ?_)
              · refine s_lload X dX6_isInteger_120 1 rfl ?_
                exact j122 v (by omega)
              · refine s_lload X dX6_isInteger_114 1 rfl ?_
                refine s_lneg X dX6_isInteger_116 ?_
                refine s_goto X 122 dX6_isInteger_117 (by decide) ?_
                exact j122 (-v) (by omega)
            · refine s_lload X dX6_isInteger_70 1 rfl ?_
              refine s_ldc2 4294967296 X dX6_isInteger_72 tg865 (by decide) ?_
              refine s_lif_le X 84 dX6_isInteger_75 dX6_isInteger_76 (by decide) (by omega) (fun c75 => ?_) (fun c75 => ?_)
              · refine s_ldc2 10 X dX6_isInteger_84 tg866 (by decide) ?_
                refine s_lload X dX6_isInteger_87 1 rfl ?_
                refine s_lmul X dX6_isInteger_89 ?_
                refine s_aload_n X dX6_isInteger_90 rfl 3 rfl ?_
                refine s_iload X dX6_isInteger_91 0 rfl ?_
                refine s_callIV X lk_X6_63 [0, 1] [] (wr := []) rfl rfl (by decide) (by decide) (by decide) (c_X6_byteAt (kl K) G o a po xt xi xd yt yi yd th n e dn at9 dp kd wh pl base sg row ror np nw nb ns nrw nir inf9 re nr B kk (by assumption) (by assumption) (by omega)) rfl rfl dX6_isInteger_93 rfl rfl (Nat.le_of_ble_eq_true rfl) (by decide) (fun z5 w5 h5 => ?_)
                obtain ⟨rfl, rfl⟩ := h5
                show SW K G 7 0 0 96 [(4, .int (iI kk)), (5, .long (lI v)), (3, .int (iI ls)), (0, .ref o), (1, .int (iI f)), (2, .int (iI j))] [.int (iI (bA B n kk)), .long (lI (10 * v))] [oMo o th n a e dn at9 dp po kd wh re pl base sg xt row ror xi xd np nw nr nb ns yt nrw nir yi yd inf9, aB G a 3000 B]
                have q6 := bA_C n kk (by assumption : ∀ j, B j < 256)
                have e9 : bA B n kk = (wd B f j) (kk - f) := wd_bA (by omega)
                have d8 := dg_C ((wd B f j) (kk - f))
                have d7 : dg ((wd B f j) (kk - f)) < 10 := hd _ (by omega) (by omega)
                refine s_i2l X dX6_isInteger_96 (by omega) ?_
                refine s_ladd X dX6_isInteger_97 ?_
                refine s_ldc2 48 X dX6_isInteger_98 tg867 (by decide) ?_
                refine s_lsub X dX6_isInteger_101 ?_
                refine s_lstore X dX6_isInteger_102 [(5, .long (lI (((10 * v) + (bA B n kk)) - 48))), (4, .int (iI kk)), (3, .int (iI ls)), (0, .ref o), (1, .int (iI f)), (2, .int (iI j))] (by decide) rfl ?_
                refine s_iinc (z := kk + 1) X dX6_isInteger_104 1 rfl (by first | rfl | omega) [(4, .int (iI (kk + 1))), (5, .long (lI (((10 * v) + (bA B n kk)) - 48))), (3, .int (iI ls)), (0, .ref o), (1, .int (iI f)), (2, .int (iI j))] (by decide) rfl ?_
                refine s_goto X 64 dX6_isInteger_107 (by decide) ?_
                exact ih9 (kk + 1) (((10 * v) + (bA B n kk)) - 48) (by omega) (by rw [← h2]; first | (rw [vo_stay (i := kk - f) (by omega) (by decide) (by omega), show kk + 1 - f = kk - f + 1 by omega]; done) | (rw [vo_go (i := kk - f) (by omega) (by decide) (by omega), show v * 10 + dg ((wd B f j) (kk - f)) = 10 * v + bA B n kk - 48 by omega, show kk + 1 - f = kk - f + 1 by omega]; done)) (by omega)
              · refine s_lload X dX6_isInteger_79 1 rfl ?_
                refine s_goto X 102 dX6_isInteger_81 (by decide) ?_
                refine s_lstore X dX6_isInteger_102 [(5, .long (lI v)), (4, .int (iI kk)), (3, .int (iI ls)), (0, .ref o), (1, .int (iI f)), (2, .int (iI j))] (by decide) rfl ?_
                refine s_iinc (z := kk + 1) X dX6_isInteger_104 1 rfl (by first | rfl | omega) [(4, .int (iI (kk + 1))), (5, .long (lI v)), (3, .int (iI ls)), (0, .ref o), (1, .int (iI f)), (2, .int (iI j))] (by decide) rfl ?_
                refine s_goto X 64 dX6_isInteger_107 (by decide) ?_
                exact ih9 (kk + 1) v (by omega) (by rw [← h2]; first | (rw [vo_stay (i := kk - f) (by omega) (by decide) (by omega), show kk + 1 - f = kk - f + 1 by omega]; done) | (rw [vo_go (i := kk - f) (by omega) (by decide) (by omega), show v * 10 + dg ((wd B f j) (kk - f)) = 10 * v + bA B n kk - 48 by omega, show kk + 1 - f = kk - f + 1 by omega]; done)) (by omega)
        refine s_locs (lv' := [(4, .int (iI k)), (5, .long (lI 0)), (3, .int (iI ls)), (0, .ref o), (1, .int (iI f)), (2, .int (iI j))]) [2, 0, 1, 3, 4, 5] rfl ?_
        exact lp _ k 0 (by omega) (by rw [hk]; rfl) (Nat.lt_succ_self _)
      · refine s_iconst X dX6_isInteger_59 ?_
        refine s_iret X Y dX6_isInteger_60 (rfl) ?_
        refine ⟨nw, nb, ?_, rfl, ?_⟩
        · (first | (exfalso; omega) | (refine (tf_f (fun h => ?_)).symm; obtain ⟨h1, h2, -⟩ := h; first | (rw [hk] at c56; omega) | omega))
        · (first | (exfalso; omega) | (intro h; exfalso; obtain ⟨h1, h2, -⟩ := h; first | (rw [hk] at c56; omega) | omega))
  refine s_icmp_ne X 14 dX6_isInteger_7 (by decide) (by omega) (fun c7 => ?_) (fun c7 => ?_)
  · refine s_iconst X dX6_isInteger_14 ?_
    refine s_istore_n X dX6_isInteger_15 rfl [(3, .int (iI 0)), (0, .ref o), (1, .int (iI f)), (2, .int (iI j))] (by decide) rfl ?_
    refine s_iload_n X dX6_isInteger_16 rfl 0 rfl ?_
    refine s_if_ne X 30 dX6_isInteger_17 (by decide) (by omega) (fun c17 => ?_) (fun c17 => ?_)
    · refine s_iload_n X dX6_isInteger_30 rfl 2 rfl ?_
      refine s_iconst X dX6_isInteger_31 ?_
      refine s_iadd X dX6_isInteger_32 ?_
      refine s_goto X 37 dX6_isInteger_33 (by decide) ?_
      refine s_istore X dX6_isInteger_37 [(4, .int (iI (f + 1))), (3, .int (iI 0)), (0, .ref o), (1, .int (iI f)), (2, .int (iI j))] (by decide) rfl ?_
      refine s_locs (lv' := [(3, .int (iI 0)), (4, .int (iI (f + 1))), (0, .ref o), (1, .int (iI f)), (2, .int (iI j))]) [1, 0, 2, 3, 4] rfl ?_
      exact j39 0 (f + 1) (by omega) (by unfold bs; first | (rw [if_pos (by omega)]; omega) | (rw [if_neg (by omega)]; omega))
    · refine s_aload_n X dX6_isInteger_20 rfl 1 rfl ?_
      refine s_iload_n X dX6_isInteger_21 rfl 2 rfl ?_
      refine s_callIV X lk_X6_63 [0, 1] [] (wr := []) rfl rfl (by decide) (by decide) (by decide) (c_X6_byteAt (kl K) G o a po xt xi xd yt yi yd th n e dn at9 dp kd wh pl base sg row ror np nw nb ns nrw nir inf9 re nr B f (by assumption) (by assumption) (by omega)) rfl rfl dX6_isInteger_22 rfl rfl (Nat.le_of_ble_eq_true rfl) (by decide) (fun z7 w7 h7 => ?_)
      obtain ⟨rfl, rfl⟩ := h7
      show SW K G 7 0 0 25 [(3, .int (iI 0)), (0, .ref o), (1, .int (iI f)), (2, .int (iI j))] [.int (iI (bA B n f))] [oMo o th n a e dn at9 dp po kd wh re pl base sg xt row ror xi xd np nw nr nb ns yt nrw nir yi yd inf9, aB G a 3000 B]
      have q8 := bA_C n f (by assumption : ∀ j, B j < 256)
      have e0_7 : bA B n f = wd B f j 0 := by have h9 := wd_bA (B := B) (n := n) (i := f) (j := j) (x := f) (by omega); rwa [Int.sub_self] at h9
      refine s_bipush 43 X dX6_isInteger_25 (by decide) ?_
      refine s_icmp_ne X 36 dX6_isInteger_27 (by decide) (by omega) (fun c27 => ?_) (fun c27 => ?_)
      · refine s_iload_n X dX6_isInteger_36 rfl 2 rfl ?_
        refine s_istore X dX6_isInteger_37 [(4, .int (iI f)), (3, .int (iI 0)), (0, .ref o), (1, .int (iI f)), (2, .int (iI j))] (by decide) rfl ?_
        refine s_locs (lv' := [(3, .int (iI 0)), (4, .int (iI f)), (0, .ref o), (1, .int (iI f)), (2, .int (iI j))]) [1, 0, 2, 3, 4] rfl ?_
        exact j39 0 f (by omega) (by unfold bs; first | (rw [if_pos (by omega)]; omega) | (rw [if_neg (by omega)]; omega))
      · refine s_iload_n X dX6_isInteger_30 rfl 2 rfl ?_
        refine s_iconst X dX6_isInteger_31 ?_
        refine s_iadd X dX6_isInteger_32 ?_
        refine s_goto X 37 dX6_isInteger_33 (by decide) ?_
        refine s_istore X dX6_isInteger_37 [(4, .int (iI (f + 1))), (3, .int (iI 0)), (0, .ref o), (1, .int (iI f)), (2, .int (iI j))] (by decide) rfl ?_
        refine s_locs (lv' := [(3, .int (iI 0)), (4, .int (iI (f + 1))), (0, .ref o), (1, .int (iI f)), (2, .int (iI j))]) [1, 0, 2, 3, 4] rfl ?_
        exact j39 0 (f + 1) (by omega) (by unfold bs; first | (rw [if_pos (by omega)]; omega) | (rw [if_neg (by omega)]; omega))
  · refine s_iconst X dX6_isInteger_10 ?_
    refine s_goto X 15 dX6_isInteger_11 (by decide) ?_
    refine s_istore_n X dX6_isInteger_15 rfl [(3, .int (iI 1)), (0, .ref o), (1, .int (iI f)), (2, .int (iI j))] (by decide) rfl ?_
    refine s_iload_n X dX6_isInteger_16 rfl 0 rfl ?_
    refine s_if_ne X 30 dX6_isInteger_17 (by decide) (by omega) (fun c17 => ?_) (fun c17 => ?_)
    · refine s_iload_n X dX6_isInteger_30 rfl 2 rfl ?_
      refine s_iconst X dX6_isInteger_31 ?_
      refine s_iadd X dX6_isInteger_32 ?_
      refine s_goto X 37 dX6_isInteger_33 (by decide) ?_
      refine s_istore X dX6_isInteger_37 [(4, .int (iI (f + 1))), (3, .int (iI 1)), (0, .ref o), (1, .int (iI f)), (2, .int (iI j))] (by decide) rfl ?_
      refine s_locs (lv' := [(3, .int (iI 1)), (4, .int (iI (f + 1))), (0, .ref o), (1, .int (iI f)), (2, .int (iI j))]) [1, 0, 2, 3, 4] rfl ?_
      exact j39 1 (f + 1) (by omega) (by unfold bs; first | (rw [if_pos (by omega)]; omega) | (rw [if_neg (by omega)]; omega))
    · refine s_aload_n X dX6_isInteger_20 rfl 1 rfl ?_
      refine s_iload_n X dX6_isInteger_21 rfl 2 rfl ?_
      refine s_callIV X lk_X6_63 [0, 1] [] (wr := []) rfl rfl (by decide) (by decide) (by decide) (c_X6_byteAt (kl K) G o a po xt xi xd yt yi yd th n e dn at9 dp kd wh pl base sg row ror np nw nb ns nrw nir inf9 re nr B f (by assumption) (by assumption) (by omega)) rfl rfl dX6_isInteger_22 rfl rfl (Nat.le_of_ble_eq_true rfl) (by decide) (fun z9 w9 h9 => ?_)
      obtain ⟨rfl, rfl⟩ := h9
      show SW K G 7 0 0 25 [(3, .int (iI 1)), (0, .ref o), (1, .int (iI f)), (2, .int (iI j))] [.int (iI (bA B n f))] [oMo o th n a e dn at9 dp po kd wh re pl base sg xt row ror xi xd np nw nr nb ns yt nrw nir yi yd inf9, aB G a 3000 B]
      have q10 := bA_C n f (by assumption : ∀ j, B j < 256)
      have e0_9 : bA B n f = wd B f j 0 := by have h9 := wd_bA (B := B) (n := n) (i := f) (j := j) (x := f) (by omega); rwa [Int.sub_self] at h9
      refine s_bipush 43 X dX6_isInteger_25 (by decide) ?_
      refine s_icmp_ne X 36 dX6_isInteger_27 (by decide) (by omega) (fun c27 => ?_) (fun c27 => ?_)
      · refine s_iload_n X dX6_isInteger_36 rfl 2 rfl ?_
        refine s_istore X dX6_isInteger_37 [(4, .int (iI f)), (3, .int (iI 1)), (0, .ref o), (1, .int (iI f)), (2, .int (iI j))] (by decide) rfl ?_
        refine s_locs (lv' := [(3, .int (iI 1)), (4, .int (iI f)), (0, .ref o), (1, .int (iI f)), (2, .int (iI j))]) [1, 0, 2, 3, 4] rfl ?_
        exact j39 1 f (by omega) (by unfold bs; first | (rw [if_pos (by omega)]; omega) | (rw [if_neg (by omega)]; omega))
      · refine s_iload_n X dX6_isInteger_30 rfl 2 rfl ?_
        refine s_iconst X dX6_isInteger_31 ?_
        refine s_iadd X dX6_isInteger_32 ?_
        refine s_goto X 37 dX6_isInteger_33 (by decide) ?_
        refine s_istore X dX6_isInteger_37 [(4, .int (iI (f + 1))), (3, .int (iI 1)), (0, .ref o), (1, .int (iI f)), (2, .int (iI j))] (by decide) rfl ?_
        refine s_locs (lv' := [(3, .int (iI 1)), (4, .int (iI (f + 1))), (0, .ref o), (1, .int (iI f)), (2, .int (iI j))]) [1, 0, 2, 3, 4] rfl ?_
        exact j39 1 (f + 1) (by omega) (by unfold bs; first | (rw [if_pos (by omega)]; omega) | (rw [if_neg (by omega)]; omega))
set_option maxRecDepth 100000 in
set_option maxHeartbeats 4000000 in
theorem c_X6_withBase (l : Launch) (G : GX) (o : Nat) (a : Nat) (po : Nat) (xt : Nat) (xi : Nat) (xd : Nat) (yt : Nat) (yi : Nat) (yd : Nat) (th : Int) (n : Int) (e : Int) (dn : Int) (at9 : Int) (dp : Int) (kd : Int) (wh : Int) (pl : Int) (base : Int) (sg : Int) (row : Int) (ror : Int) (np : Int) (nw : Int) (nb : Int) (ns : Int) (nrw : Int) (nir : Int) (inf9 : Int) (re : UInt64) (nr : UInt64) (B : Nat → Nat) (f : Int) (j : Int) (hn : 0 ≤ n ∧ n ≤ 3000) (hBb : ∀ j, B j < 256) (hfj : 0 ≤ f ∧ f < j ∧ j ≤ n) (hj35 : ¬ bA B n j = 35) : CtI l G yX6_withBase cX6_withBase 9 (some .int) ({ frames := 2, cells := 0, slots := 0, locals := 44 } : Room) [.ref o, .int (iI f), .int (iI j)] [oMo o th n a e dn at9 dp po kd wh re pl base sg xt row ror xi xd np nw nr nb ns yt nrw nir yi yd inf9, aB G a 3000 B] (fun (z9 : Int) (w9 : va_W) => ∃ (nw2 : Int), ∃ (nb2 : Int), z9 = (if rbA (wd B f j) (j - f) = 3 then 0 else rbA (wd B f j) (j - f)) ∧ w9 = [oMo o th n a e dn at9 dp po kd wh re pl base sg xt row ror xi xd np nw2 nr nb2 ns yt nrw nir yi yd inf9, aB G a 3000 B] ∧ (z9 = 1 → nw2 = rbV (wd B f j) (j - f) ∧ nb2 = rbB (wd B f j) (j - f))) := by
  intro sz
  refine met_of (fun wc sz => va_Qi (qI _) (posW G wc sz) (va_A wc sz)) (by decide) [(0, .ref o), (1, .int (iI f)), (2, .int (iI j))] rfl (Nat.le_of_ble_eq_true rfl) (fun K hK9 hnm X Y => ?_)
  subst hK9
  replace Y : RI K G (some .int) 0 0 _ := Y
  have eM : rbM (wd B f j) (j - f) = de (wd B f j) (j - f) 10 0 := rfl
  have mR := de_C (wd B f j) (j - f) 10 0
  have eS : rbS (wd B f j) (j - f) = vo (wd B f j) (rbB (wd B f j) (j - f)) (rbM (wd B f j) (j - f) + 1) (j - f) 0 := rfl
  have b12 := rbB_12 (w := (wd B f j)) (len := (j - f))
  have hdl : ∀ x, 0 ≤ x → x < rbM (wd B f j) (j - f) → x < (j - f) → dg ((wd B f j) x) < 10 := de_lt (w := (wd B f j)) (len := (j - f)) (base := 10) _ 0 rfl
  refine s_aload_n X dX6_withBase_0 rfl 0 rfl ?_
  refine s_iload_n X dX6_withBase_1 rfl 1 rfl ?_
  refine s_iload_n X dX6_withBase_2 rfl 2 rfl ?_
  refine s_callIV X lk_X6_67 [0, 1] [] (wr := []) rfl rfl (by decide) (by decide) (by decide) (c_X6_digitsFrom (kl K) G o a po xt xi xd yt yi yd th n e dn at9 dp kd wh pl base sg row ror np nw nb ns nrw nir inf9 re nr B f f j (by assumption) (by assumption) (by omega)) rfl rfl dX6_withBase_3 rfl rfl (Nat.le_of_ble_eq_true rfl) (by decide) (fun z1 w1 h1 => ?_)
  obtain ⟨rfl, rfl⟩ := h1
  show SW K G 9 0 0 6 [(0, .ref o), (1, .int (iI f)), (2, .int (iI j))] [.int (iI (de (wd B f j) (j - f) 10 (f - f) - (f - f)))] [oMo o th n a e dn at9 dp po kd wh re pl base sg xt row ror xi xd np nw nr nb ns yt nrw nir yi yd inf9, aB G a 3000 B]
  have q2 := de_C (wd B f j) (j - f) 10 (f - f)
  refine s_cast (st' := [.int (iI (rbM (wd B f j) (j - f)))]) (by rw [Int.sub_self, Int.sub_zero]; rfl) rfl rfl ?_
  refine s_istore_n X dX6_withBase_6 rfl [(3, .int (iI (rbM (wd B f j) (j - f)))), (0, .ref o), (1, .int (iI f)), (2, .int (iI j))] (by decide) rfl ?_
  refine s_iload_n X dX6_withBase_7 rfl 0 rfl ?_
  refine s_iconst X dX6_withBase_8 ?_
  refine s_icmp_lt X 38 dX6_withBase_9 (by decide) (by omega) (fun c9 => ?_) (fun c9 => ?_)
  · refine s_iconst X dX6_withBase_38 ?_
    refine s_iret X Y dX6_withBase_39 (rfl) ?_
    refine ⟨nw, nb, ?_, rfl, ?_⟩
    · (first | (exfalso; omega) | (rw [if_pos (show rbA (wd B f j) (j - f) = 3 from if_neg (fun h => by obtain ⟨h1, h2, h3, h4, h5, h6, h7⟩ := h; omega))]))
    · (first | (exfalso; omega) | (intro h; exact absurd h (by decide)))
  · refine s_iload_n X dX6_withBase_12 rfl 0 rfl ?_
    refine s_iconst X dX6_withBase_13 ?_
    refine s_icmp_gt X 38 dX6_withBase_14 (by decide) (by omega) (fun c14 => ?_) (fun c14 => ?_)
    · refine s_iconst X dX6_withBase_38 ?_
      refine s_iret X Y dX6_withBase_39 (rfl) ?_
      refine ⟨nw, nb, ?_, rfl, ?_⟩
      · (first | (exfalso; omega) | (rw [if_pos (show rbA (wd B f j) (j - f) = 3 from if_neg (fun h => by obtain ⟨h1, h2, h3, h4, h5, h6, h7⟩ := h; omega))]))
      · (first | (exfalso; omega) | (intro h; exact absurd h (by decide)))
    · refine s_aload_n X dX6_withBase_17 rfl 1 rfl ?_
      refine s_iload_n X dX6_withBase_18 rfl 2 rfl ?_
      refine s_iload_n X dX6_withBase_19 rfl 0 rfl ?_
      refine s_iadd X dX6_withBase_20 ?_
      refine s_callIV X lk_X6_63 [0, 1] [] (wr := []) rfl rfl (by decide) (by decide) (by decide) (c_X6_byteAt (kl K) G o a po xt xi xd yt yi yd th n e dn at9 dp kd wh pl base sg row ror np nw nb ns nrw nir inf9 re nr B (f + (rbM (wd B f j) (j - f))) (by assumption) (by assumption) (by omega)) rfl rfl dX6_withBase_21 rfl rfl (Nat.le_of_ble_eq_true rfl) (by decide) (fun z3 w3 h3 => ?_)
      obtain ⟨rfl, rfl⟩ := h3
      show SW K G 9 0 0 24 [(3, .int (iI (rbM (wd B f j) (j - f)))), (0, .ref o), (1, .int (iI f)), (2, .int (iI j))] [.int (iI (bA B n (f + (rbM (wd B f j) (j - f)))))] [oMo o th n a e dn at9 dp po kd wh re pl base sg xt row ror xi xd np nw nr nb ns yt nrw nir yi yd inf9, aB G a 3000 B]
      have q4 := bA_C n (f + (rbM (wd B f j) (j - f))) (by assumption : ∀ j, B j < 256)
      have e35 : (rbM (wd B f j) (j - f) < (j - f) ∧ bA B n (f + rbM (wd B f j) (j - f)) = (wd B f j) (rbM (wd B f j) (j - f))) ∨ (rbM (wd B f j) (j - f) = (j - f) ∧ ¬ bA B n (f + rbM (wd B f j) (j - f)) = 35 ∧ (wd B f j) (rbM (wd B f j) (j - f)) = -1) := by
        by_cases h9 : rbM (wd B f j) (j - f) < (j - f)
        · refine Or.inl ⟨h9, ?_⟩
          have h8 := wd_bA (B := B) (n := n) (i := f) (j := j) (x := f + rbM (wd B f j) (j - f)) (by omega)
          rwa [show f + rbM (wd B f j) (j - f) - f = rbM (wd B f j) (j - f) by omega] at h8
        · refine Or.inr ⟨by omega, ?_, wd_out (by omega)⟩
          rw [show f + rbM (wd B f j) (j - f) = j by omega]; exact hj35
      refine s_bipush 35 X dX6_withBase_24 (by decide) ?_
      refine s_icmp_ne X 38 dX6_withBase_26 (by decide) (by omega) (fun c26 => ?_) (fun c26 => ?_)
      · refine s_iconst X dX6_withBase_38 ?_
        refine s_iret X Y dX6_withBase_39 (rfl) ?_
        refine ⟨nw, nb, ?_, rfl, ?_⟩
        · (first | (exfalso; omega) | (rw [if_pos (show rbA (wd B f j) (j - f) = 3 from if_neg (fun h => by obtain ⟨h1, h2, h3, h4, h5, h6, h7⟩ := h; omega))]))
        · (first | (exfalso; omega) | (intro h; exact absurd h (by decide)))
      · refine s_iload_n X dX6_withBase_29 rfl 2 rfl ?_
        refine s_iload_n X dX6_withBase_30 rfl 0 rfl ?_
        refine s_iadd X dX6_withBase_31 ?_
        refine s_iconst X dX6_withBase_32 ?_
        refine s_iadd X dX6_withBase_33 ?_
        refine s_iload_n X dX6_withBase_34 rfl 3 rfl ?_
        refine s_icmp_lt X 40 dX6_withBase_35 (by decide) (by omega) (fun c35 => ?_) (fun c35 => ?_)
        · refine s_aload_n X dX6_withBase_40 rfl 1 rfl ?_
          refine s_iload_n X dX6_withBase_41 rfl 2 rfl ?_
          refine s_callIV X lk_X6_63 [0, 1] [] (wr := []) rfl rfl (by decide) (by decide) (by decide) (c_X6_byteAt (kl K) G o a po xt xi xd yt yi yd th n e dn at9 dp kd wh pl base sg row ror np nw nb ns nrw nir inf9 re nr B f (by assumption) (by assumption) (by omega)) rfl rfl dX6_withBase_42 rfl rfl (Nat.le_of_ble_eq_true rfl) (by decide) (fun z5 w5 h5 => ?_)
          obtain ⟨rfl, rfl⟩ := h5
          show SW K G 9 0 0 45 [(3, .int (iI (rbM (wd B f j) (j - f)))), (0, .ref o), (1, .int (iI f)), (2, .int (iI j))] [.int (iI (bA B n f))] [oMo o th n a e dn at9 dp po kd wh re pl base sg xt row ror xi xd np nw nr nb ns yt nrw nir yi yd inf9, aB G a 3000 B]
          have q6 := bA_C n f (by assumption : ∀ j, B j < 256)
          have e0_5 : bA B n f = wd B f j 0 := by have h9 := wd_bA (B := B) (n := n) (i := f) (j := j) (x := f) (by omega); rwa [Int.sub_self] at h9
          have c0 := dg_C ((wd B f j) 0)
          have c9 : dg ((wd B f j) 0) < 10 := hdl 0 (by omega) (by omega) (by omega)
          refine s_bipush 48 X dX6_withBase_45 (by decide) ?_
          refine s_isub X dX6_withBase_47 ?_
          refine s_istore X dX6_withBase_48 [(4, .int (iI ((bA B n f) - 48))), (3, .int (iI (rbM (wd B f j) (j - f)))), (0, .ref o), (1, .int (iI f)), (2, .int (iI j))] (by decide) rfl ?_
          have j78 : ∀ (b9 : Int) (hb9 : b9 = rbB (wd B f j) (j - f) ∧ 0 ≤ b9 ∧ b9 ≤ 99), SW K G 9 0 0 78 [(4, .int (iI b9)), (3, .int (iI (rbM (wd B f j) (j - f)))), (0, .ref o), (1, .int (iI f)), (2, .int (iI j))] [] [oMo o th n a e dn at9 dp po kd wh re pl base sg xt row ror xi xd np nw nr nb ns yt nrw nir yi yd inf9, aB G a 3000 B] := by
            intro b9 hb9
            refine s_iload X dX6_withBase_78 0 rfl ?_
            refine s_iconst X dX6_withBase_80 ?_
            refine s_icmp_lt X 91 dX6_withBase_81 (by decide) (by omega) (fun c81 => ?_) (fun c81 => ?_)
            · refine s_iconst X dX6_withBase_91 ?_
              refine s_iret X Y dX6_withBase_92 (rfl) ?_
              refine ⟨nw, nb, ?_, rfl, ?_⟩
              · (first | (exfalso; omega) | (rw [if_pos (show rbA (wd B f j) (j - f) = 3 from if_neg (fun h => by obtain ⟨h1, h2, h3, h4, h5, h6, h7⟩ := h; omega))]))
              · (first | (exfalso; omega) | (intro h; exact absurd h (by decide)))
            · refine s_iload X dX6_withBase_84 0 rfl ?_
              refine s_bipush 36 X dX6_withBase_86 (by decide) ?_
              refine s_icmp_le X 93 dX6_withBase_88 (by decide) (by omega) (fun c88 => ?_) (fun c88 => ?_)
              · refine s_lconst0 X dX6_withBase_93 ?_
                refine s_lstore X dX6_withBase_94 [(5, .long (lI 0)), (4, .int (iI b9)), (3, .int (iI (rbM (wd B f j) (j - f)))), (0, .ref o), (1, .int (iI f)), (2, .int (iI j))] (by decide) rfl ?_
                refine s_iload_n X dX6_withBase_96 rfl 4 rfl ?_
                refine s_iload_n X dX6_withBase_97 rfl 2 rfl ?_
                refine s_iadd X dX6_withBase_98 ?_
                refine s_iconst X dX6_withBase_99 ?_
                refine s_iadd X dX6_withBase_100 ?_
                refine s_istore X dX6_withBase_101 [(7, .int (iI ((f + (rbM (wd B f j) (j - f))) + 1))), (5, .long (lI 0)), (4, .int (iI b9)), (3, .int (iI (rbM (wd B f j) (j - f)))), (0, .ref o), (1, .int (iI f)), (2, .int (iI j))] (by decide) rfl ?_
                have lp : ∀ (m9 : Nat) (kk : Int) (v : Int) (h1 : f + rbM (wd B f j) (j - f) + 1 ≤ kk ∧ kk ≤ j ∧ 0 ≤ v ∧ v ≤ 154618822691) (h2 : vo (wd B f j) b9 (kk - f) (j - f) (sat v) = rbS (wd B f j) (j - f)) (h3 : de (wd B f j) (j - f) b9 (kk - f) = de (wd B f j) (j - f) b9 (rbM (wd B f j) (j - f) + 1)), (j - kk).toNat < m9 → SW K G 9 0 0 103 [(7, .int (iI kk)), (5, .long (lI v)), (4, .int (iI b9)), (3, .int (iI (rbM (wd B f j) (j - f)))), (0, .ref o), (1, .int (iI f)), (2, .int (iI j))] [] [oMo o th n a e dn at9 dp po kd wh re pl base sg xt row ror xi xd np nw nr nb ns yt nrw nir yi yd inf9, aB G a 3000 B] := by
                  intro m9
                  induction m9 with
                  | zero => intro kk v h1 h2 h3 hm9; exact absurd hm9 (Nat.not_lt_zero _)
                  | succ m9 ih9 =>
                    intro kk v h1 h2 h3 hm9
                    have hmul : v < 4294967296 → 0 ≤ v * b9 ∧ v * b9 ≤ 4294967296 * 36 := fun hv => ⟨Int.mul_nonneg (by omega) (by omega), Int.mul_le_mul (by omega) (by omega) (by omega) (by omega)⟩
                    refine s_iload X dX6_withBase_103 0 rfl ?_
                    refine s_iload_n X dX6_withBase_105 rfl 6 rfl ?_
                    refine s_icmp_ge X 161 dX6_withBase_106 (by decide) (by omega) (fun c106 => ?_) (fun c106 => ?_)
                    · have hS : rbS (wd B f j) (j - f) = sat v := by rw [← h2, vo_out (by omega)]
                      have hs9 := sat_C v
                      have hC : rbC (wd B f j) (j - f) := ⟨by omega, by omega, by omega, by omega, by omega, by omega, by rw [← hb9.1, ← h3, de_out (by omega)]⟩
                      refine s_aload_n X dX6_withBase_161 rfl 4 rfl ?_
                      refine s_lload X dX6_withBase_162 1 rfl ?_
                      have j182 : ∀ (y : Int) (hy : v < 4294967296 → y = rbV (wd B f j) (j - f)), SW K G 9 0 0 182 [(7, .int (iI kk)), (5, .long (lI v)), (4, .int (iI b9)), (3, .int (iI (rbM (wd B f j) (j - f)))), (0, .ref o), (1, .int (iI f)), (2, .int (iI j))] [.long (lI y), .ref o] [oMo o th n a e dn at9 dp po kd wh re pl base sg xt row ror xi xd np nw nr nb ns yt nrw nir yi yd inf9, aB G a 3000 B] := by
                        intro y hy
                        refine s_put X dX6_withBase_182 fl_X6_77 tyX6_ok nmX6 0 rfl rfl (rfl) (rfl) (Nat.le_of_ble_eq_true rfl) [oMo o th n a e dn at9 dp po kd wh re pl base sg xt row ror xi xd np y nr nb ns yt nrw nir yi yd inf9, aB G a 3000 B] rfl ?_
                        refine s_aload_n X dX6_withBase_185 rfl 4 rfl ?_
                        refine s_iload X dX6_withBase_186 2 rfl ?_
                        refine s_put X dX6_withBase_188 fl_X6_81 tyX6_ok nmX6 0 rfl rfl (rfl) (rfl) (Nat.le_of_ble_eq_true rfl) [oMo o th n a e dn at9 dp po kd wh re pl base sg xt row ror xi xd np y nr b9 ns yt nrw nir yi yd inf9, aB G a 3000 B] rfl ?_
                        refine s_lload X dX6_withBase_191 1 rfl ?_
                        refine s_ldc2 4294967296 X dX6_withBase_193 tg865 (by decide) ?_
                        refine s_lif_lt X 205 dX6_withBase_196 dX6_withBase_197 (by decide) (by omega) (fun c196 => ?_) (fun c196 => ?_)
                        · refine s_iconst X dX6_withBase_205 ?_
                          refine s_iret X Y dX6_withBase_206 (rfl) ?_
                          refine ⟨y, b9, ?_, rfl, ?_⟩
                          · (first | (exfalso; omega) | (first | (rw [show rbA (wd B f j) (j - f) = -6 from by unfold rbA; rw [if_pos hC, if_pos (by omega)]]; rfl) | (rw [show rbA (wd B f j) (j - f) = 1 from by unfold rbA; rw [if_pos hC, if_neg (by omega)]]; rfl)))
                          · (first | (exfalso; omega) | (intro h; first | exact absurd h (by decide) | exact ⟨hy (by omega), hb9.1⟩))
                        · refine s_bipush (-6) X dX6_withBase_200 (by decide) ?_
                          refine s_goto X 206 dX6_withBase_202 (by decide) ?_
                          refine s_iret X Y dX6_withBase_206 (rfl) ?_
                          refine ⟨y, b9, ?_, rfl, ?_⟩
                          · (first | (exfalso; omega) | (first | (rw [show rbA (wd B f j) (j - f) = -6 from by unfold rbA; rw [if_pos hC, if_pos (by omega)]]; rfl) | (rw [show rbA (wd B f j) (j - f) = 1 from by unfold rbA; rw [if_pos hC, if_neg (by omega)]]; rfl)))
                          · (first | (exfalso; omega) | (intro h; first | exact absurd h (by decide) | exact ⟨hy (by omega), hb9.1⟩))
                      refine s_ldc2 2147483647 X dX6_withBase_164 tg869 (by decide) ?_
                      refine s_lif_le X 180 dX6_withBase_167 dX6_withBase_168 (by decide) (by omega) (fun c167 => ?_) (fun c167 => ?_)
                      · refine s_lload X dX6_withBase_180 1 rfl ?_
                        exact j182 v (by intro h9; unfold rbV; first | rw [if_pos (by omega), hS, sat_id (by omega)] | rw [if_neg (by omega), hS, sat_id (by omega)])
                      · refine s_lload X dX6_withBase_171 1 rfl ?_
                        refine s_ldc2 4294967296 X dX6_withBase_173 tg865 (by decide) ?_
                        refine s_lsub X dX6_withBase_176 ?_
                        refine s_goto X 182 dX6_withBase_177 (by decide) ?_
                        exact j182 (v - 4294967296) (by intro h9; unfold rbV; first | rw [if_pos (by omega), hS, sat_id (by omega)] | rw [if_neg (by omega), hS, sat_id (by omega)])
                    · refine s_aload_n X dX6_withBase_109 rfl 4 rfl ?_
                      refine s_iload X dX6_withBase_110 0 rfl ?_
                      refine s_callIV X lk_X6_63 [0, 1] [] (wr := []) rfl rfl (by decide) (by decide) (by decide) (c_X6_byteAt (kl K) G o a po xt xi xd yt yi yd th n e dn at9 dp kd wh pl base sg row ror np nw nb ns nrw nir inf9 re nr B kk (by assumption) (by assumption) (by omega)) rfl rfl dX6_withBase_112 rfl rfl (Nat.le_of_ble_eq_true rfl) (by decide) (fun z7 w7 h7 => ?_)
                      obtain ⟨rfl, rfl⟩ := h7
                      show SW K G 9 0 0 115 [(7, .int (iI kk)), (5, .long (lI v)), (4, .int (iI b9)), (3, .int (iI (rbM (wd B f j) (j - f)))), (0, .ref o), (1, .int (iI f)), (2, .int (iI j))] [.int (iI (bA B n kk))] [oMo o th n a e dn at9 dp po kd wh re pl base sg xt row ror xi xd np nw nr nb ns yt nrw nir yi yd inf9, aB G a 3000 B]
                      have q8 := bA_C n kk (by assumption : ∀ j, B j < 256)
                      have e9 : bA B n kk = (wd B f j) (kk - f) := wd_bA (by omega)
                      have d6 := dg_R ((wd B f j) (kk - f))
                      refine s_callIS X lk_X6_88 [] [0, 1] (wr := [oMo o th n a e dn at9 dp po kd wh re pl base sg xt row ror xi xd np nw nr nb ns yt nrw nir yi yd inf9, aB G a 3000 B]) rfl rfl (by decide) (by decide) (by decide) (c_X6_digit (kl K) G (bA B n kk) (by omega)) dX6_withBase_115 rfl rfl (Nat.le_of_ble_eq_true rfl) (by decide) (fun z9 w9 h9 => ?_)
                      obtain ⟨rfl, rfl⟩ := h9
                      show SW K G 9 0 0 118 [(7, .int (iI kk)), (5, .long (lI v)), (4, .int (iI b9)), (3, .int (iI (rbM (wd B f j) (j - f)))), (0, .ref o), (1, .int (iI f)), (2, .int (iI j))] [.int (iI (dg9 (bA B n kk)))] [oMo o th n a e dn at9 dp po kd wh re pl base sg xt row ror xi xd np nw nr nb ns yt nrw nir yi yd inf9, aB G a 3000 B]
                      have q10 := dg9_C (bA B n kk)
                      have q11 := dg_C (bA B n kk)
                      refine s_istore X dX6_withBase_118 [(8, .int (iI (dg9 (bA B n kk)))), (7, .int (iI kk)), (5, .long (lI v)), (4, .int (iI b9)), (3, .int (iI (rbM (wd B f j) (j - f)))), (0, .ref o), (1, .int (iI f)), (2, .int (iI j))] (by decide) rfl ?_
                      refine s_iload X dX6_withBase_120 0 rfl ?_
                      refine s_iload X dX6_withBase_122 3 rfl ?_
                      refine s_icmp_lt X 129 dX6_withBase_124 (by decide) (by omega) (fun c124 => ?_) (fun c124 => ?_)
                      · refine s_lload X dX6_withBase_129 2 rfl ?_
                        refine s_ldc2 4294967296 X dX6_withBase_131 tg865 (by decide) ?_
                        refine s_lif_lt X 143 dX6_withBase_134 dX6_withBase_135 (by decide) (by omega) (fun c134 => ?_) (fun c134 => ?_)
                        · refine s_lload X dX6_withBase_143 2 rfl ?_
                          refine s_iload X dX6_withBase_145 3 rfl ?_
                          refine s_i2l X dX6_withBase_147 (by omega) ?_
                          refine s_lmul X dX6_withBase_148 ?_
                          refine s_iload X dX6_withBase_149 0 rfl ?_
                          refine s_i2l X dX6_withBase_151 (by omega) ?_
                          refine s_ladd X dX6_withBase_152 ?_
                          refine s_lstore X dX6_withBase_153 [(5, .long (lI ((v * b9) + (dg9 (bA B n kk))))), (8, .int (iI (dg9 (bA B n kk)))), (7, .int (iI kk)), (4, .int (iI b9)), (3, .int (iI (rbM (wd B f j) (j - f)))), (0, .ref o), (1, .int (iI f)), (2, .int (iI j))] (by decide) rfl ?_
                          refine s_iinc (z := kk + 1) X dX6_withBase_155 2 rfl (by first | rfl | omega) [(7, .int (iI (kk + 1))), (5, .long (lI ((v * b9) + (dg9 (bA B n kk))))), (8, .int (iI (dg9 (bA B n kk)))), (4, .int (iI b9)), (3, .int (iI (rbM (wd B f j) (j - f)))), (0, .ref o), (1, .int (iI f)), (2, .int (iI j))] (by decide) rfl ?_
                          refine s_goto X 103 dX6_withBase_158 (by decide) ?_
                          refine s_locs (lv' := [(7, .int (iI (kk + 1))), (5, .long (lI ((v * b9) + (dg9 (bA B n kk))))), (4, .int (iI b9)), (3, .int (iI (rbM (wd B f j) (j - f)))), (0, .ref o), (1, .int (iI f)), (2, .int (iI j))]) [0, 1, 3, 4, 5, 6, 7] rfl ?_
                          exact ih9 (kk + 1) ((v * b9) + (dg9 (bA B n kk))) (by first | omega | (have h9 := hmul (by omega); omega)) (by rw [← h2]; first | (rw [vo_stay (i := kk - f) (by omega) (by omega) (by omega), show kk + 1 - f = kk - f + 1 by omega]; done) | (rw [vo_go (i := kk - f) (by omega) (by omega) (by omega), show dg9 (bA B n kk) = dg ((wd B f j) (kk - f)) by (rw [← e9]; rw [← e9] at d6; omega), show kk + 1 - f = kk - f + 1 by omega]; done)) (by rw [← h3, de_s (i := kk - f) (by omega), if_neg (by rw [← e9]; omega), show kk + 1 - f = kk - f + 1 by omega]) (by omega)
                        · refine s_lload X dX6_withBase_138 2 rfl ?_
                          refine s_goto X 153 dX6_withBase_140 (by decide) ?_
                          refine s_lstore X dX6_withBase_153 [(5, .long (lI v)), (8, .int (iI (dg9 (bA B n kk)))), (7, .int (iI kk)), (4, .int (iI b9)), (3, .int (iI (rbM (wd B f j) (j - f)))), (0, .ref o), (1, .int (iI f)), (2, .int (iI j))] (by decide) rfl ?_
                          refine s_iinc (z := kk + 1) X dX6_withBase_155 2 rfl (by first | rfl | omega) [(7, .int (iI (kk + 1))), (5, .long (lI v)), (8, .int (iI (dg9 (bA B n kk)))), (4, .int (iI b9)), (3, .int (iI (rbM (wd B f j) (j - f)))), (0, .ref o), (1, .int (iI f)), (2, .int (iI j))] (by decide) rfl ?_
                          refine s_goto X 103 dX6_withBase_158 (by decide) ?_
                          refine s_locs (lv' := [(7, .int (iI (kk + 1))), (5, .long (lI v)), (4, .int (iI b9)), (3, .int (iI (rbM (wd B f j) (j - f)))), (0, .ref o), (1, .int (iI f)), (2, .int (iI j))]) [0, 1, 3, 4, 5, 6, 7] rfl ?_
                          exact ih9 (kk + 1) v (by first | omega | (have h9 := hmul (by omega); omega)) (by rw [← h2]; first | (rw [vo_stay (i := kk - f) (by omega) (by omega) (by omega), show kk + 1 - f = kk - f + 1 by omega]; done) | (rw [vo_go (i := kk - f) (by omega) (by omega) (by omega), show dg9 (bA B n kk) = dg ((wd B f j) (kk - f)) by (rw [← e9]; rw [← e9] at d6; omega), show kk + 1 - f = kk - f + 1 by omega]; done)) (by rw [← h3, de_s (i := kk - f) (by omega), if_neg (by rw [← e9]; omega), show kk + 1 - f = kk - f + 1 by omega]) (by omega)
                      · refine s_iconst X dX6_withBase_127 ?_
                        refine s_iret X Y dX6_withBase_128 (rfl) ?_
                        refine ⟨nw, nb, ?_, rfl, ?_⟩
                        · (first | (exfalso; omega) | (rw [if_pos (show rbA (wd B f j) (j - f) = 3 from if_neg (fun h => by obtain ⟨a1, a2, a3, a4, a5, a6, a7⟩ := h; rw [← hb9.1, ← h3, de_s (by omega), if_pos (by rw [← e9]; omega)] at a7; omega))]))
                        · (first | (exfalso; omega) | (intro h; exact absurd h (by decide)))
                exact lp _ ((f + (rbM (wd B f j) (j - f))) + 1) 0 (by omega) (by rw [eS, hb9.1, show f + rbM (wd B f j) (j - f) + 1 - f = rbM (wd B f j) (j - f) + 1 by omega]; rfl) (by rw [show f + rbM (wd B f j) (j - f) + 1 - f = rbM (wd B f j) (j - f) + 1 by omega]) (Nat.lt_succ_self _)
              · refine s_iconst X dX6_withBase_91 ?_
                refine s_iret X Y dX6_withBase_92 (rfl) ?_
                refine ⟨nw, nb, ?_, rfl, ?_⟩
                · (first | (exfalso; omega) | (rw [if_pos (show rbA (wd B f j) (j - f) = 3 from if_neg (fun h => by obtain ⟨h1, h2, h3, h4, h5, h6, h7⟩ := h; omega))]))
                · (first | (exfalso; omega) | (intro h; exact absurd h (by decide)))
          refine s_iload_n X dX6_withBase_50 rfl 1 rfl ?_
          refine s_iconst X dX6_withBase_51 ?_
          refine s_icmp_ne X 74 dX6_withBase_52 (by decide) (by omega) (fun c52 => ?_) (fun c52 => ?_)
          · refine s_iload X dX6_withBase_74 0 rfl ?_
            refine s_istore X dX6_withBase_76 [(4, .int (iI ((bA B n f) - 48))), (3, .int (iI (rbM (wd B f j) (j - f)))), (0, .ref o), (1, .int (iI f)), (2, .int (iI j))] (by decide) rfl ?_
            exact j78 ((bA B n f) - 48) (by first | (have h9 := b12.2 (by omega); omega) | (have h9 := b12.1 (by omega); omega))
          · refine s_bipush 10 X dX6_withBase_55 (by decide) ?_
            refine s_iload X dX6_withBase_57 0 rfl ?_
            refine s_imul X dX6_withBase_59 ?_
            refine s_aload_n X dX6_withBase_60 rfl 2 rfl ?_
            refine s_iload_n X dX6_withBase_61 rfl 3 rfl ?_
            refine s_iconst X dX6_withBase_62 ?_
            refine s_iadd X dX6_withBase_63 ?_
            refine s_callIV X lk_X6_63 [0, 1] [] (wr := []) rfl rfl (by decide) (by decide) (by decide) (c_X6_byteAt (kl K) G o a po xt xi xd yt yi yd th n e dn at9 dp kd wh pl base sg row ror np nw nb ns nrw nir inf9 re nr B (f + 1) (by assumption) (by assumption) (by omega)) rfl rfl dX6_withBase_64 rfl rfl (Nat.le_of_ble_eq_true rfl) (by decide) (fun z12 w12 h12 => ?_)
            obtain ⟨rfl, rfl⟩ := h12
            show SW K G 9 0 0 67 [(4, .int (iI ((bA B n f) - 48))), (3, .int (iI (rbM (wd B f j) (j - f)))), (0, .ref o), (1, .int (iI f)), (2, .int (iI j))] [.int (iI (bA B n (f + 1))), .int (iI (10 * ((bA B n f) - 48)))] [oMo o th n a e dn at9 dp po kd wh re pl base sg xt row ror xi xd np nw nr nb ns yt nrw nir yi yd inf9, aB G a 3000 B]
            have q13 := bA_C n (f + 1) (by assumption : ∀ j, B j < 256)
            have e1 : bA B n (f + 1) = (wd B f j) 1 := by have h8 := wd_bA (B := B) (n := n) (i := f) (j := j) (x := f + 1) (by omega); rwa [show f + 1 - f = (1 : Int) by omega] at h8
            have c1 := dg_C ((wd B f j) 1)
            have c8 : dg ((wd B f j) 1) < 10 := hdl 1 (by omega) (by omega) (by omega)
            refine s_iadd X dX6_withBase_67 ?_
            refine s_bipush 48 X dX6_withBase_68 (by decide) ?_
            refine s_isub X dX6_withBase_70 ?_
            refine s_goto X 76 dX6_withBase_71 (by decide) ?_
            refine s_istore X dX6_withBase_76 [(4, .int (iI (((10 * ((bA B n f) - 48)) + (bA B n (f + 1))) - 48))), (3, .int (iI (rbM (wd B f j) (j - f)))), (0, .ref o), (1, .int (iI f)), (2, .int (iI j))] (by decide) rfl ?_
            exact j78 (((10 * ((bA B n f) - 48)) + (bA B n (f + 1))) - 48) (by first | (have h9 := b12.2 (by omega); omega) | (have h9 := b12.1 (by omega); omega))
        · refine s_iconst X dX6_withBase_38 ?_
          refine s_iret X Y dX6_withBase_39 (rfl) ?_
          refine ⟨nw, nb, ?_, rfl, ?_⟩
          · (first | (exfalso; omega) | (rw [if_pos (show rbA (wd B f j) (j - f) = 3 from if_neg (fun h => by obtain ⟨h1, h2, h3, h4, h5, h6, h7⟩ := h; omega))]))
          · (first | (exfalso; omega) | (intro h; exact absurd h (by decide)))
