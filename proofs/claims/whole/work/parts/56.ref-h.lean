set_option maxRecDepth 100000 in
set_option maxHeartbeats 4000000 in
theorem c_X6_angled (l : Launch) (G : GX) (o : Nat) (a : Nat) (po : Nat) (xt : Nat) (xi : Nat) (xd : Nat) (yt : Nat) (yi : Nat) (yd : Nat) (th : Int) (n : Int) (e : Int) (dn : Int) (at9 : Int) (dp : Int) (kd : Int) (wh : Int) (pl : Int) (base : Int) (sg : Int) (row : Int) (ror : Int) (np : Int) (nw : Int) (nb : Int) (ns : Int) (nrw : Int) (nir : Int) (inf9 : Int) (re : UInt64) (nr : UInt64) (B : Nat → Nat) (t : Nat → Nat) (hn : 0 ≤ n ∧ n ≤ 3000) (hBb : ∀ j, B j < 256) (he : e = 0 ∨ e = 1) (hap : 0 ≤ at9 ∧ at9 < n) (hns0 : ns = 0) (htb : ∀ j, t j < 256) (hnp : np = at9) : CtI l G yX6_angled cX6_angled 1 (some .int) ({ frames := 3, cells := 0, slots := 0, locals := 72 } : Room) [.ref o] [oMo o th n a e dn at9 dp po kd wh re pl base sg xt row ror xi xd np nw nr nb ns yt nrw nir yi yd inf9, aB G a 3000 B, aB G yt 400 t] (fun (z9 : Int) (w9 : va_W) => ∃ (at2 : Int), ∃ (np2 : Int), ∃ (nw2 : Int), ∃ (ns2 : Int), ∃ (t2 : Nat → Nat), w9 = [oMo o th n a e dn at2 dp po kd wh re pl base sg xt row ror xi xd np2 nw2 nr nb ns2 yt nrw nir yi yd inf9, aB G a 3000 B, aB G yt 400 t2] ∧ (z9 = lsA B n e at9) ∧ (z9 ≠ 0 → at2 = lsF B n at9 ∧ np2 = lsP B n at9) ∧ (z9 = 6 → nw2 = lsW B n at9 ∧ TY t2 ns2 (lsO B n at9)) ∧ (∀ j, t2 j < 256)) := by
  intro sz
  refine met_of (fun wc sz => va_Qi (qI _) (posW G wc sz) (va_A wc sz)) (by decide) [(0, .ref o)] rfl (Nat.le_of_ble_eq_true rfl) (fun K hK9 hnm X Y => ?_)
  subst hK9
  replace Y : RI K G (some .int) 0 0 _ := Y
  refine s_aload_n X dX6_angled_0 rfl 0 rfl ?_
  refine s_get X dX6_angled_1 fl_X6_102 0 rfl rfl ?_
  refine s_iconst X dX6_angled_4 ?_
  refine s_iadd X dX6_angled_5 ?_
  refine s_aload_n X dX6_angled_6 rfl 0 rfl ?_
  refine s_get X dX6_angled_7 fl_X6_40 0 rfl rfl ?_
  refine s_icmp_ne X 28 dX6_angled_10 (by decide) (by omega) (fun c10 => ?_) (fun c10 => ?_)
  · refine s_aload_n X dX6_angled_28 rfl 0 rfl ?_
    refine s_aload_n X dX6_angled_29 rfl 0 rfl ?_
    refine s_get X dX6_angled_30 fl_X6_102 0 rfl rfl ?_
    refine s_iconst X dX6_angled_33 ?_
    refine s_iadd X dX6_angled_34 ?_
    refine s_callIV X lk_X6_63 [0, 1] [2] (wr := [aB G yt 400 t]) rfl rfl (by decide) (by decide) (by decide) (c_X6_byteAt (kl K) G o a po xt xi xd yt yi yd th n e dn at9 dp kd wh pl base sg row ror np nw nb ns nrw nir inf9 re nr B (at9 + 1) (by assumption) (by assumption) (by omega)) rfl rfl dX6_angled_35 rfl rfl (Nat.le_of_ble_eq_true rfl) (by decide) (fun z1 w1 h1 => ?_)
    obtain ⟨rfl, rfl⟩ := h1
    show SW K G 1 0 0 38 [(0, .ref o)] [.int (iI (bA B n (at9 + 1)))] [aB G yt 400 t, oMo o th n a e dn at9 dp po kd wh re pl base sg xt row ror xi xd np nw nr nb ns yt nrw nir yi yd inf9, aB G a 3000 B]
    have q2 := bA_C n (at9 + 1) (by assumption : ∀ j, B j < 256)
    refine s_bipush 60 X dX6_angled_38 (by decide) ?_
    refine s_icmp_ne X 56 dX6_angled_40 (by decide) (by omega) (fun c40 => ?_) (fun c40 => ?_)
    · refine s_aload_n X dX6_angled_56 rfl 0 rfl ?_
      refine s_aload_n X dX6_angled_57 rfl 0 rfl ?_
      refine s_get X dX6_angled_58 fl_X6_102 1 rfl rfl ?_
      refine s_iconst X dX6_angled_61 ?_
      refine s_iadd X dX6_angled_62 ?_
      refine s_callIV X lk_X6_63 [1, 2] [0] (wr := [aB G yt 400 t]) rfl rfl (by decide) (by decide) (by decide) (c_X6_byteAt (kl K) G o a po xt xi xd yt yi yd th n e dn at9 dp kd wh pl base sg row ror np nw nb ns nrw nir inf9 re nr B (at9 + 1) (by assumption) (by assumption) (by omega)) rfl rfl dX6_angled_63 rfl rfl (Nat.le_of_ble_eq_true rfl) (by decide) (fun z3 w3 h3 => ?_)
      obtain ⟨rfl, rfl⟩ := h3
      show SW K G 1 0 0 66 [(0, .ref o)] [.int (iI (bA B n (at9 + 1)))] [aB G yt 400 t, oMo o th n a e dn at9 dp po kd wh re pl base sg xt row ror xi xd np nw nr nb ns yt nrw nir yi yd inf9, aB G a 3000 B]
      have q4 := bA_C n (at9 + 1) (by assumption : ∀ j, B j < 256)
      refine s_bipush 126 X dX6_angled_66 (by decide) ?_
      refine s_icmp_ne X 76 dX6_angled_68 (by decide) (by omega) (fun c68 => ?_) (fun c68 => ?_)
      · refine s_aload_n X dX6_angled_76 rfl 0 rfl ?_
        refine s_dup X dX6_angled_77 rfl ?_
        refine s_get X dX6_angled_78 fl_X6_102 1 rfl rfl ?_
        refine s_iconst X dX6_angled_81 ?_
        refine s_iadd X dX6_angled_82 ?_
        refine s_put X dX6_angled_83 fl_X6_102 tyX6_ok nmX6 1 rfl rfl (rfl) (rfl) (Nat.le_of_ble_eq_true rfl) [aB G yt 400 t, oMo o th n a e dn (at9 + 1) dp po kd wh re pl base sg xt row ror xi xd np nw nr nb ns yt nrw nir yi yd inf9, aB G a 3000 B] rfl ?_
        refine s_aload_n X dX6_angled_86 rfl 0 rfl ?_
        refine s_callIV X lk_X6_156 [1, 2, 0] [] (wr := []) rfl rfl (by decide) (by decide) (by decide) (c_X6_sixteens (kl K) G o a po xt xi xd yt yi yd th n e dn (at9 + 1) dp kd wh pl base sg row ror np nw nb ns nrw nir inf9 re nr B t (by assumption) (by assumption) (by omega) (by omega) (by assumption) (by assumption)) rfl rfl dX6_angled_87 rfl rfl (Nat.le_of_ble_eq_true rfl) (by decide) (fun z5 w5 h5 => ?_)
        obtain ⟨at25, np25, nw25, ns25, t25, rfl, f5_0, f5_1, f5_2, f5_3⟩ := h5
        show SW K G 1 0 0 90 [(0, .ref o)] [.int (iI z5)] [oMo o th n a e dn at25 dp po kd wh re pl base sg xt row ror xi xd np25 nw25 nr nb ns25 yt nrw nir yi yd inf9, aB G a 3000 B, aB G yt 400 t25]
        have gS := ls_s (B := B) (n := n) (p := at9) e (by omega) (by omega) (ls_hx (by assumption))
        have g0 := f5_0
        have g1 := f5_1
        have g2 := f5_2
        have g3 := f5_3
        refine s_iret X Y dX6_angled_90 (rfl) ?_
        refine ⟨at25, np25, nw25, ns25, t25, rfl, ?_, ?_, ?_, ?_⟩
        · (first | (exfalso; omega) | (rw [gS.1]; exact g0))
        · (first | (exfalso; omega) | (intro h; rw [gS.2.1, gS.2.2.1]; rw [hnp] at g1; exact g1 h))
        · (first | (exfalso; omega) | (intro h; rw [gS.2.2.2.1, gS.2.2.2.2]; exact g2 h))
        · (first | (exfalso; omega) | (exact g3))
      · refine s_aload_n X dX6_angled_71 rfl 0 rfl ?_
        refine s_callIV X lk_X6_153 [1, 2, 0] [] (wr := []) rfl rfl (by decide) (by decide) (by decide) (c_X6_eightyFives (kl K) G o a po xt xi xd yt yi yd th n e dn at9 dp kd wh pl base sg row ror np nw nb ns nrw nir inf9 re nr B t (by assumption) (by assumption) (by omega) (by omega) (by assumption) (by assumption)) rfl rfl dX6_angled_72 rfl rfl (Nat.le_of_ble_eq_true rfl) (by decide) (fun z6 w6 h6 => ?_)
        obtain ⟨at26, np26, nw26, ns26, t26, rfl, f6_0, f6_1, f6_2, f6_3⟩ := h6
        show SW K G 1 0 0 75 [(0, .ref o)] [.int (iI z6)] [oMo o th n a e dn at26 dp po kd wh re pl base sg xt row ror xi xd np26 nw26 nr nb ns26 yt nrw nir yi yd inf9, aB G a 3000 B, aB G yt 400 t26]
        have gS := ls_s (B := B) (n := n) (p := at9) e (by omega) (by omega) (ls_126 (by assumption))
        have g0 := f6_0
        have g1 := f6_1
        have g2 := f6_2
        have g3 := f6_3
        refine s_iret X Y dX6_angled_75 (rfl) ?_
        refine ⟨at26, np26, nw26, ns26, t26, rfl, ?_, ?_, ?_, ?_⟩
        · (first | (exfalso; omega) | (rw [gS.1]; exact g0))
        · (first | (exfalso; omega) | (intro h; rw [gS.2.1, gS.2.2.1]; rw [hnp] at g1; exact g1 h))
        · (first | (exfalso; omega) | (intro h; rw [gS.2.2.2.1, gS.2.2.2.2]; exact g2 h))
        · (first | (exfalso; omega) | (exact g3))
    · refine s_aload_n X dX6_angled_43 rfl 0 rfl ?_
      refine s_aload_n X dX6_angled_44 rfl 0 rfl ?_
      refine s_get X dX6_angled_45 fl_X6_102 1 rfl rfl ?_
      refine s_iconst X dX6_angled_48 ?_
      refine s_iadd X dX6_angled_49 ?_
      refine s_put X dX6_angled_50 fl_X6_102 tyX6_ok nmX6 1 rfl rfl (rfl) (rfl) (Nat.le_of_ble_eq_true rfl) [aB G yt 400 t, oMo o th n a e dn (at9 + 2) dp po kd wh re pl base sg xt row ror xi xd np nw nr nb ns yt nrw nir yi yd inf9, aB G a 3000 B] rfl ?_
      refine s_bipush 11 X dX6_angled_53 (by decide) ?_
      refine s_perm (ws' := [oMo o th n a e dn (at9 + 2) dp po kd wh re pl base sg xt row ror xi xd np nw nr nb ns yt nrw nir yi yd inf9, aB G a 3000 B, aB G yt 400 t]) [1, 2, 0] (by decide) rfl rfl ?_
      refine s_iret X Y dX6_angled_55 (rfl) ?_
      refine ⟨(at9 + 2), np, nw, ns, t, rfl, ?_, ?_, ?_, ?_⟩
      · (first | (exfalso; omega) | (exact (ls_60 e (by assumption)).1.symm))
      · (first | (exfalso; omega) | (intro _; have hh := ls_60 (n := n) (B := B) (p := at9) e (by assumption); rw [hh.2.1, hh.2.2]; exact ⟨rfl, hnp⟩))
      · (first | (exfalso; omega) | (intro h; exact absurd h (by decide)))
      · (first | (exfalso; omega) | (exact htb))
  · refine s_aload_n X dX6_angled_13 rfl 0 rfl ?_
    refine s_dup X dX6_angled_14 rfl ?_
    refine s_get X dX6_angled_15 fl_X6_102 0 rfl rfl ?_
    refine s_iconst X dX6_angled_18 ?_
    refine s_iadd X dX6_angled_19 ?_
    refine s_put X dX6_angled_20 fl_X6_102 tyX6_ok nmX6 0 rfl rfl (rfl) (rfl) (Nat.le_of_ble_eq_true rfl) [oMo o th n a e dn (at9 + 1) dp po kd wh re pl base sg xt row ror xi xd np nw nr nb ns yt nrw nir yi yd inf9, aB G a 3000 B, aB G yt 400 t] rfl ?_
    refine s_aload_n X dX6_angled_23 rfl 0 rfl ?_
    refine s_callIV X lk_X6_132 [0] [1, 2] (wr := [aB G a 3000 B, aB G yt 400 t]) rfl rfl (by decide) (by decide) (by decide) (c_X6_lacking (kl K) G o a po xt xi xd yt yi yd th n e dn (at9 + 1) dp kd wh pl base sg row ror np nw nb ns nrw nir inf9 re nr (by omega)) rfl rfl dX6_angled_24 rfl rfl (Nat.le_of_ble_eq_true rfl) (by decide) (fun z7 w7 h7 => ?_)
    obtain ⟨rfl, rfl⟩ := h7
    show SW K G 1 0 0 27 [(0, .ref o)] [.int (iI (if e = 0 then 0 else -7))] [aB G a 3000 B, aB G yt 400 t, oMo o th n a e dn (if e = 0 then (at9 + 1) else n) dp po kd wh re pl base sg xt row ror xi xd np nw nr nb ns yt nrw nir yi yd inf9]
    refine s_perm (ws' := [oMo o th n a e dn (if e = 0 then (at9 + 1) else n) dp po kd wh re pl base sg xt row ror xi xd np nw nr nb ns yt nrw nir yi yd inf9, aB G a 3000 B, aB G yt 400 t]) [2, 0, 1] (by decide) rfl rfl ?_
    refine s_iret X Y dX6_angled_27 (rfl) ?_
    refine ⟨(if e = 0 then (at9 + 1) else n), np, nw, ns, t, rfl, ?_, ?_, ?_, ?_⟩
    · (first | (exfalso; omega) | (exact (ls_out (B := B) e (by omega)).1.symm))
    · (first | (exfalso; omega) | (intro h; have h9 : ¬ e = 0 := (fun q => h (by rw [if_pos q])); have hh := ls_out (B := B) (n := n) (p := at9) e (by omega); rw [hh.2.1, hh.2.2, if_neg h9]; exact ⟨rfl, hnp⟩))
    · (first | (exfalso; omega) | (intro h; exact absurd h (by split <;> decide)))
    · (first | (exfalso; omega) | (exact htb))
set_option maxRecDepth 100000 in
set_option maxHeartbeats 4000000 in
theorem c_X6_signed (l : Launch) (G : GX) (o : Nat) (a : Nat) (po : Nat) (xt : Nat) (xi : Nat) (xd : Nat) (yt : Nat) (yi : Nat) (yd : Nat) (th : Int) (n : Int) (e : Int) (dn : Int) (at9 : Int) (dp : Int) (kd : Int) (wh : Int) (pl : Int) (base : Int) (sg : Int) (row : Int) (ror : Int) (np : Int) (nw : Int) (nb : Int) (ns : Int) (nrw : Int) (nir : Int) (inf9 : Int) (re : UInt64) (nr : UInt64) (B : Nat → Nat) (f : Int) (w : Int) (lf : Int) (hn : 0 ≤ n ∧ n ≤ 3000) (hBb : ∀ j, B j < 256) (hf : 0 ≤ f ∧ f + w ≤ n) (hw : w = 1 ∨ w = 2 ∨ w = 4) (hlf : lf = 0 ∨ lf = 1) : CtL l G yX6_signed cX6_signed 9 (some .long) ({ frames := 1, cells := 0, slots := 0, locals := 21 } : Room) [.ref o, .int (iI f), .int (iI w), .int (iI lf)] [oMo o th n a e dn at9 dp po kd wh re pl base sg xt row ror xi xd np nw nr nb ns yt nrw nir yi yd inf9, aB G a 3000 B] (fun (z9 : Int) (w9 : va_W) => z9 = (nmb B n f w lf) ∧ w9 = [oMo o th n a e dn at9 dp po kd wh re pl base sg xt row ror xi xd np nw nr nb ns yt nrw nir yi yd inf9, aB G a 3000 B]) := by
  intro sz
  refine met_of (fun wc sz => va_Ql (qL _) (posW G wc sz) (va_A wc sz)) (by decide) [(0, .ref o), (1, .int (iI f)), (2, .int (iI w)), (3, .int (iI lf))] rfl (Nat.le_of_ble_eq_true rfl) (fun K hK9 hnm X Y => ?_)
  subst hK9
  replace Y : RLg K G (some .long) 0 0 _ := Y
  refine s_lconst0 X dX6_signed_0 ?_
  refine s_lstore X dX6_signed_1 [(4, .long (lI 0)), (0, .ref o), (1, .int (iI f)), (2, .int (iI w)), (3, .int (iI lf))] (by decide) rfl ?_
  refine s_iconst X dX6_signed_3 ?_
  refine s_istore X dX6_signed_4 [(6, .int (iI 0)), (4, .long (lI 0)), (0, .ref o), (1, .int (iI f)), (2, .int (iI w)), (3, .int (iI lf))] (by decide) rfl ?_
  have lp : ∀ (m9 : Nat) (v : Int) (q : Int) (h1 : 0 ≤ q ∧ q ≤ w) (h2 : v = uu B n f w lf q.toNat), (w - q).toNat < m9 → SW K G 9 0 0 6 [(4, .long (lI v)), (6, .int (iI q)), (0, .ref o), (1, .int (iI f)), (2, .int (iI w)), (3, .int (iI lf))] [] [oMo o th n a e dn at9 dp po kd wh re pl base sg xt row ror xi xd np nw nr nb ns yt nrw nir yi yd inf9, aB G a 3000 B] := by
    intro m9
    induction m9 with
    | zero => intro v q h1 h2 hm9; exact absurd hm9 (Nat.not_lt_zero _)
    | succ m9 ih9 =>
      intro v q h1 h2 hm9
      refine s_iload X dX6_signed_6 1 rfl ?_
      refine s_iload_n X dX6_signed_8 rfl 4 rfl ?_
      refine s_icmp_ge X 51 dX6_signed_9 (by decide) (by omega) (fun c9 => ?_) (fun c9 => ?_)
      · refine s_lconst1 X dX6_signed_51 ?_
        refine s_lstore X dX6_signed_52 [(6, .long (lI 1)), (4, .long (lI v)), (0, .ref o), (1, .int (iI f)), (2, .int (iI w)), (3, .int (iI lf))] (by decide) rfl ?_
        refine s_iconst X dX6_signed_54 ?_
        refine s_istore X dX6_signed_55 [(8, .int (iI 1)), (6, .long (lI 1)), (4, .long (lI v)), (0, .ref o), (1, .int (iI f)), (2, .int (iI w)), (3, .int (iI lf))] (by decide) rfl ?_
        have lp2 : ∀ (m9 : Nat) (h : Int) (k : Int) (g1 : 1 ≤ k ∧ k ≤ 8 * w) (g2 : h = 2 ^ (k - 1).toNat), (8 * w - k).toNat < m9 → SW K G 9 0 0 57 [(6, .long (lI h)), (8, .int (iI k)), (4, .long (lI v)), (0, .ref o), (1, .int (iI f)), (2, .int (iI w)), (3, .int (iI lf))] [] [oMo o th n a e dn at9 dp po kd wh re pl base sg xt row ror xi xd np nw nr nb ns yt nrw nir yi yd inf9, aB G a 3000 B] := by
          intro m9
          induction m9 with
          | zero => intro h k g1 g2 hm9; exact absurd hm9 (Nat.not_lt_zero _)
          | succ m9 ih9 =>
            intro h k g1 g2 hm9
            refine s_iload X dX6_signed_57 1 rfl ?_
            refine s_bipush 8 X dX6_signed_59 (by decide) ?_
            refine s_iload_n X dX6_signed_61 rfl 5 rfl ?_
            refine s_imul X dX6_signed_62 ?_
            refine s_icmp_ge X 80 dX6_signed_63 (by decide) (by omega) (fun c63 => ?_) (fun c63 => ?_)
            · have hh := hf_end hw g1 (by omega) g2
              have hu := uu_R (B := B) (n := n) (i := f) (w := w) (lf := lf) hBb hf hw hlf
              have hv : v = uu B n f w lf w.toNat := by rw [h2, show q.toNat = w.toNat by omega]
              rw [← hv] at hu
              refine s_lload X dX6_signed_80 2 rfl ?_
              refine s_lload X dX6_signed_82 0 rfl ?_
              refine s_lif_lt X 100 dX6_signed_84 dX6_signed_85 (by decide) (by omega) (fun c84 => ?_) (fun c84 => ?_)
              · refine s_lload X dX6_signed_100 2 rfl ?_
                refine s_lret X Y dX6_signed_102 ?_
                refine ⟨?_, rfl⟩
                · (first | (exfalso; omega) | (rw [nmb, ← hv]; unfold sgn; (repeat' split) <;> omega))
              · refine s_lload X dX6_signed_88 2 rfl ?_
                refine s_ldc2 2 X dX6_signed_90 tg948 (by decide) ?_
                refine s_lload X dX6_signed_93 0 rfl ?_
                refine s_lmul X dX6_signed_95 ?_
                refine s_lsub X dX6_signed_96 ?_
                refine s_goto X 102 dX6_signed_97 (by decide) ?_
                refine s_lret X Y dX6_signed_102 ?_
                refine ⟨?_, rfl⟩
                · (first | (exfalso; omega) | (rw [nmb, ← hv]; unfold sgn; (repeat' split) <;> omega))
            · refine s_ldc2 2 X dX6_signed_66 tg948 (by decide) ?_
              refine s_lload X dX6_signed_69 0 rfl ?_
              refine s_lmul X dX6_signed_71 ?_
              refine s_lstore X dX6_signed_72 [(6, .long (lI (2 * h))), (8, .int (iI k)), (4, .long (lI v)), (0, .ref o), (1, .int (iI f)), (2, .int (iI w)), (3, .int (iI lf))] (by decide) rfl ?_
              refine s_iinc (z := k + 1) X dX6_signed_74 1 rfl (by first | rfl | omega) [(8, .int (iI (k + 1))), (6, .long (lI (2 * h))), (4, .long (lI v)), (0, .ref o), (1, .int (iI f)), (2, .int (iI w)), (3, .int (iI lf))] (by decide) rfl ?_
              refine s_goto X 57 dX6_signed_77 (by decide) ?_
              refine s_locs (lv' := [(6, .long (lI (2 * h))), (8, .int (iI (k + 1))), (4, .long (lI v)), (0, .ref o), (1, .int (iI f)), (2, .int (iI w)), (3, .int (iI lf))]) [1, 0, 2, 3, 4, 5, 6] rfl ?_
              exact ih9 (2 * h) (k + 1) (by omega) (hf_step g1.1 g2) (by omega)
        refine s_locs (lv' := [(6, .long (lI 1)), (8, .int (iI 1)), (4, .long (lI v)), (0, .ref o), (1, .int (iI f)), (2, .int (iI w)), (3, .int (iI lf))]) [1, 0, 2, 3, 4, 5, 6] rfl ?_
        exact lp2 _ 1 1 (by omega) (rfl) (Nat.lt_succ_self _)
      · refine s_ldc2 256 X dX6_signed_12 tg947 (by decide) ?_
        refine s_lload X dX6_signed_15 0 rfl ?_
        refine s_lmul X dX6_signed_17 ?_
        refine s_aload_n X dX6_signed_18 rfl 2 rfl ?_
        refine s_iload_n X dX6_signed_19 rfl 5 rfl ?_
        refine s_if_eq X 34 dX6_signed_20 (by decide) (by omega) (fun c20 => ?_) (fun c20 => ?_)
        · refine s_iload_n X dX6_signed_34 rfl 3 rfl ?_
          refine s_iload X dX6_signed_35 1 rfl ?_
          refine s_iadd X dX6_signed_37 ?_
          refine s_callIV X lk_X6_63 [0, 1] [] (wr := []) rfl rfl (by decide) (by decide) (by decide) (c_X6_byteAt (kl K) G o a po xt xi xd yt yi yd th n e dn at9 dp kd wh pl base sg row ror np nw nb ns nrw nir inf9 re nr B (f + q) (by assumption) (by assumption) (by omega)) rfl rfl dX6_signed_38 rfl rfl (Nat.le_of_ble_eq_true rfl) (by decide) (fun z1 w1 h1 => ?_)
          obtain ⟨rfl, rfl⟩ := h1
          show SW K G 9 0 0 41 [(4, .long (lI v)), (6, .int (iI q)), (0, .ref o), (1, .int (iI f)), (2, .int (iI w)), (3, .int (iI lf))] [.int (iI (bA B n (f + q))), .long (lI (256 * v))] [oMo o th n a e dn at9 dp po kd wh re pl base sg xt row ror xi xd np nw nr nb ns yt nrw nir yi yd inf9, aB G a 3000 B]
          have q2 := bA_C n (f + q) (by assumption : ∀ j, B j < 256)
          refine s_i2l X dX6_signed_41 (by omega) ?_
          refine s_ladd X dX6_signed_42 ?_
          refine s_lstore X dX6_signed_43 [(4, .long (lI ((256 * v) + (bA B n (f + q))))), (6, .int (iI q)), (0, .ref o), (1, .int (iI f)), (2, .int (iI w)), (3, .int (iI lf))] (by decide) rfl ?_
          refine s_iinc (z := q + 1) X dX6_signed_45 1 rfl (by first | rfl | omega) [(6, .int (iI (q + 1))), (4, .long (lI ((256 * v) + (bA B n (f + q))))), (0, .ref o), (1, .int (iI f)), (2, .int (iI w)), (3, .int (iI lf))] (by decide) rfl ?_
          refine s_goto X 6 dX6_signed_48 (by decide) ?_
          refine s_locs (lv' := [(4, .long (lI ((256 * v) + (bA B n (f + q))))), (6, .int (iI (q + 1))), (0, .ref o), (1, .int (iI f)), (2, .int (iI w)), (3, .int (iI lf))]) [1, 0, 2, 3, 4, 5] rfl ?_
          exact ih9 ((256 * v) + (bA B n (f + q))) (q + 1) (by omega) (by rw [uu_s h1.1, ← h2]; first | (rw [if_pos (by omega)]; omega) | (rw [if_neg (by omega)]; omega)) (by omega)
        · refine s_iload_n X dX6_signed_23 rfl 3 rfl ?_
          refine s_iload_n X dX6_signed_24 rfl 4 rfl ?_
          refine s_iadd X dX6_signed_25 ?_
          refine s_iconst X dX6_signed_26 ?_
          refine s_isub X dX6_signed_27 ?_
          refine s_iload X dX6_signed_28 1 rfl ?_
          refine s_isub X dX6_signed_30 ?_
          refine s_goto X 38 dX6_signed_31 (by decide) ?_
          refine s_callIV X lk_X6_63 [0, 1] [] (wr := []) rfl rfl (by decide) (by decide) (by decide) (c_X6_byteAt (kl K) G o a po xt xi xd yt yi yd th n e dn at9 dp kd wh pl base sg row ror np nw nb ns nrw nir inf9 re nr B (((f + w) - 1) - q) (by assumption) (by assumption) (by omega)) rfl rfl dX6_signed_38 rfl rfl (Nat.le_of_ble_eq_true rfl) (by decide) (fun z3 w3 h3 => ?_)
          obtain ⟨rfl, rfl⟩ := h3
          show SW K G 9 0 0 41 [(4, .long (lI v)), (6, .int (iI q)), (0, .ref o), (1, .int (iI f)), (2, .int (iI w)), (3, .int (iI lf))] [.int (iI (bA B n (((f + w) - 1) - q))), .long (lI (256 * v))] [oMo o th n a e dn at9 dp po kd wh re pl base sg xt row ror xi xd np nw nr nb ns yt nrw nir yi yd inf9, aB G a 3000 B]
          have q4 := bA_C n (((f + w) - 1) - q) (by assumption : ∀ j, B j < 256)
          refine s_i2l X dX6_signed_41 (by omega) ?_
          refine s_ladd X dX6_signed_42 ?_
          refine s_lstore X dX6_signed_43 [(4, .long (lI ((256 * v) + (bA B n (((f + w) - 1) - q))))), (6, .int (iI q)), (0, .ref o), (1, .int (iI f)), (2, .int (iI w)), (3, .int (iI lf))] (by decide) rfl ?_
          refine s_iinc (z := q + 1) X dX6_signed_45 1 rfl (by first | rfl | omega) [(6, .int (iI (q + 1))), (4, .long (lI ((256 * v) + (bA B n (((f + w) - 1) - q))))), (0, .ref o), (1, .int (iI f)), (2, .int (iI w)), (3, .int (iI lf))] (by decide) rfl ?_
          refine s_goto X 6 dX6_signed_48 (by decide) ?_
          refine s_locs (lv' := [(4, .long (lI ((256 * v) + (bA B n (((f + w) - 1) - q))))), (6, .int (iI (q + 1))), (0, .ref o), (1, .int (iI f)), (2, .int (iI w)), (3, .int (iI lf))]) [1, 0, 2, 3, 4, 5] rfl ?_
          exact ih9 ((256 * v) + (bA B n (((f + w) - 1) - q))) (q + 1) (by omega) (by rw [uu_s h1.1, ← h2]; first | (rw [if_pos (by omega)]; omega) | (rw [if_neg (by omega)]; omega)) (by omega)
  refine s_locs (lv' := [(4, .long (lI 0)), (6, .int (iI 0)), (0, .ref o), (1, .int (iI f)), (2, .int (iI w)), (3, .int (iI lf))]) [1, 0, 2, 3, 4, 5] rfl ?_
  exact lp _ 0 0 (by omega) (rfl) (Nat.lt_succ_self _)
set_option maxRecDepth 100000 in
set_option maxHeartbeats 4000000 in
theorem c_X6_power (l : Launch) (G : GX) (y : Int) (hy : -400 ≤ y ∧ y ≤ 400) : CtD l G yX6_power cX6_power 4 (some .double) ({ frames := 0, cells := 0, slots := 0, locals := 0 } : Room) [.int (iI y)] [] (fun (z9 : UInt64) (w9 : va_W) => z9 = (scl FP.dconst1 4611686018427387904 y) ∧ w9 = []) := by
  intro sz
  refine met_of (fun wc sz => va_Qd _ (posW G wc sz) (va_A wc sz)) (by decide) [(0, .int (iI y))] rfl (Nat.le_of_ble_eq_true rfl) (fun K hK9 hnm X Y => ?_)
  subst hK9
  replace Y : RD K G (some .double) 0 0 _ := Y
  refine s_dconst1 X dX6_power_0 ?_
  refine s_dstore_n X dX6_power_1 rfl [(1, .double FP.dconst1), (0, .int (iI y))] (by decide) rfl ?_
  refine s_iconst X dX6_power_2 ?_
  refine s_istore_n X dX6_power_3 rfl [(3, .int (iI 0)), (1, .double FP.dconst1), (0, .int (iI y))] (by decide) rfl ?_
  have lp1 : ∀ (m9 : Nat) (v : UInt64) (q : Int) (h1 : 0 ≤ q ∧ (q ≤ y ∨ q = 0)) (h2 : v = mulN FP.dconst1 4611686018427387904 q.toNat), (y - q).toNat < m9 → SW K G 4 0 0 4 [(1, .double v), (3, .int (iI q)), (0, .int (iI y))] [] [] := by
    intro m9
    induction m9 with
    | zero => intro v q h1 h2 hm9; exact absurd hm9 (Nat.not_lt_zero _)
    | succ m9 ih9 =>
      intro v q h1 h2 hm9
      refine s_iload_n X dX6_power_4 rfl 1 rfl ?_
      refine s_iload_n X dX6_power_5 rfl 2 rfl ?_
      refine s_icmp_ge X 21 dX6_power_6 (by decide) (by omega) (fun c6 => ?_) (fun c6 => ?_)
      · refine s_iconst X dX6_power_21 ?_
        refine s_istore_n X dX6_power_22 rfl [(3, .int (iI 0)), (1, .double v), (0, .int (iI y))] (by decide) rfl ?_
        have lp2 : ∀ (m9 : Nat) (v3 : UInt64) (q2 : Int) (g1 : q2 ≤ 0 ∧ (y ≤ q2 ∨ q2 = 0)) (g2 : v3 = divN (mulN FP.dconst1 4611686018427387904 y.toNat) 4611686018427387904 (-q2).toNat), (q2 - y).toNat < m9 → SW K G 4 0 0 23 [(1, .double v3), (3, .int (iI q2)), (0, .int (iI y))] [] [] := by
          intro m9
          induction m9 with
          | zero => intro v3 q2 g1 g2 hm9; exact absurd hm9 (Nat.not_lt_zero _)
          | succ m9 ih9 =>
            intro v3 q2 g1 g2 hm9
            refine s_iload_n X dX6_power_23 rfl 1 rfl ?_
            refine s_iload_n X dX6_power_24 rfl 2 rfl ?_
            refine s_icmp_le X 40 dX6_power_25 (by decide) (by omega) (fun c25 => ?_) (fun c25 => ?_)
            · refine s_dload_n X dX6_power_40 rfl 0 rfl ?_
              refine s_dret X Y dX6_power_41 ?_
              refine ⟨?_, rfl⟩
              · (first | (exfalso; omega) | (rw [g2, show (-q2).toNat = (-y).toNat by omega]; rfl))
            · refine s_dload_n X dX6_power_28 rfl 0 rfl ?_
              refine s_ldc2d X dX6_power_29 tg959 ?_
              refine s_ddiv X dX6_power_32 (by rw [g2]; exact (NN_div2 (NN_divN2 (NN_mulN2 NN_1 _) _)).1) ?_
              refine s_dstore_n X dX6_power_33 rfl [(1, .double (FP.ddiv v3 4611686018427387904)), (3, .int (iI q2)), (0, .int (iI y))] (by decide) rfl ?_
              refine s_iinc (z := q2 + (-1)) X dX6_power_34 1 rfl (by first | rfl | omega) [(3, .int (iI (q2 + (-1)))), (1, .double (FP.ddiv v3 4611686018427387904)), (0, .int (iI y))] (by decide) rfl ?_
              refine s_goto X 23 dX6_power_37 (by decide) ?_
              refine s_locs (lv' := [(1, .double (FP.ddiv v3 4611686018427387904)), (3, .int (iI (q2 + (-1)))), (0, .int (iI y))]) [1, 0, 2] rfl ?_
              exact ih9 (FP.ddiv v3 4611686018427387904) (q2 + (-1)) (by omega) (by rw [g2, show (-(q2 + (-1))).toNat = (-q2).toNat + 1 by omega]; rfl) (by omega)
        refine s_locs (lv' := [(1, .double v), (3, .int (iI 0)), (0, .int (iI y))]) [1, 0, 2] rfl ?_
        exact lp2 _ v 0 (by omega) (by rw [h2, show q.toNat = y.toNat by omega]; rfl) (Nat.lt_succ_self _)
      · refine s_dload_n X dX6_power_9 rfl 0 rfl ?_
        refine s_ldc2d X dX6_power_10 tg959 ?_
        refine s_dmul X dX6_power_13 (by rw [h2]; exact (NN_mul2 (NN_mulN2 NN_1 _)).1) ?_
        refine s_dstore_n X dX6_power_14 rfl [(1, .double (FP.dmul v 4611686018427387904)), (3, .int (iI q)), (0, .int (iI y))] (by decide) rfl ?_
        refine s_iinc (z := q + 1) X dX6_power_15 1 rfl (by first | rfl | omega) [(3, .int (iI (q + 1))), (1, .double (FP.dmul v 4611686018427387904)), (0, .int (iI y))] (by decide) rfl ?_
        refine s_goto X 4 dX6_power_18 (by decide) ?_
        refine s_locs (lv' := [(1, .double (FP.dmul v 4611686018427387904)), (3, .int (iI (q + 1))), (0, .int (iI y))]) [1, 0, 2] rfl ?_
        exact ih9 (FP.dmul v 4611686018427387904) (q + 1) (by omega) (by rw [h2, show (q + 1).toNat = q.toNat + 1 by omega]; rfl) (by omega)
  refine s_locs (lv' := [(1, .double FP.dconst1), (3, .int (iI 0)), (0, .int (iI y))]) [1, 0, 2] rfl ?_
  exact lp1 _ FP.dconst1 0 (by omega) (rfl) (Nat.lt_succ_self _)
set_option maxRecDepth 100000 in
set_option maxHeartbeats 4000000 in
theorem c_X6_four (l : Launch) (G : GX) (o : Nat) (a : Nat) (po : Nat) (xt : Nat) (xi : Nat) (xd : Nat) (yt : Nat) (yi : Nat) (yd : Nat) (th : Int) (n : Int) (e : Int) (dn : Int) (at9 : Int) (dp : Int) (kd : Int) (wh : Int) (pl : Int) (base : Int) (sg : Int) (row : Int) (ror : Int) (np : Int) (nw : Int) (nb : Int) (ns : Int) (nrw : Int) (nir : Int) (inf9 : Int) (re : UInt64) (nr : UInt64) (B : Nat → Nat) (f : Int) (lf : Int) (hn : 0 ≤ n ∧ n ≤ 3000) (hBb : ∀ j, B j < 256) (hf : 0 ≤ f ∧ f + 4 ≤ n) (hlf : lf = 0 ∨ lf = 1) (hif : inf9 = 0 ∨ inf9 = 1) : CtD l G yX6_four cX6_four 11 (some .double) ({ frames := 2, cells := 0, slots := 0, locals := 49 } : Room) [.ref o, .int (iI f), .int (iI lf)] [oMo o th n a e dn at9 dp po kd wh re pl base sg xt row ror xi xd np nw nr nb ns yt nrw nir yi yd inf9, aB G a 3000 B] (fun (z9 : UInt64) (w9 : va_W) => ∃ (inf2 : Int), z9 = (flV (nmb B n f 4 lf)) ∧ w9 = [oMo o th n a e dn at9 dp po kd wh re pl base sg xt row ror xi xd np nw nr nb ns yt nrw nir yi yd inf2, aB G a 3000 B] ∧ (inf2 = (if inf9 = 1 ∨ eb (nmb B n f 4 lf) = 255 then 1 else 0))) := by
  intro sz
  refine met_of (fun wc sz => va_Qd _ (posW G wc sz) (va_A wc sz)) (by decide) [(0, .ref o), (1, .int (iI f)), (2, .int (iI lf))] rfl (Nat.le_of_ble_eq_true rfl) (fun K hK9 hnm X Y => ?_)
  subst hK9
  replace Y : RD K G (some .double) 0 0 _ := Y
  refine s_aload_n X dX6_four_0 rfl 0 rfl ?_
  refine s_iload_n X dX6_four_1 rfl 1 rfl ?_
  refine s_iconst X dX6_four_2 ?_
  refine s_iload_n X dX6_four_3 rfl 2 rfl ?_
  refine s_callLV X lk_X6_165 [0, 1] [] (wr := []) rfl rfl (by decide) (by decide) (by decide) (c_X6_signed (kl K) G o a po xt xi xd yt yi yd th n e dn at9 dp kd wh pl base sg row ror np nw nb ns nrw nir inf9 re nr B f 4 lf (by assumption) (by assumption) (by omega) (by omega) (by omega)) rfl rfl dX6_four_4 rfl rfl (Nat.le_of_ble_eq_true rfl) (by decide) (fun z1 w1 h1 => ?_)
  obtain ⟨rfl, rfl⟩ := h1
  show SW K G 11 0 0 7 [(0, .ref o), (1, .int (iI f)), (2, .int (iI lf))] [.long (lI (nmb B n f 4 lf))] [oMo o th n a e dn at9 dp po kd wh re pl base sg xt row ror xi xd np nw nr nb ns yt nrw nir yi yd inf9, aB G a 3000 B]
  have q2 := nmb_R (B := B) (n := n) (i := f) (w := 4) (lf := lf) (by assumption) (by omega) (by omega) (by omega)
  have hz := nmb_R (B := B) (n := n) (i := f) (w := 4) (lf := lf) hBb hf (by decide) hlf
  have he := eb_R (nmb B n f 4 lf)
  have hfb := fb_R (nmb B n f 4 lf)
  refine s_lstore_n X dX6_four_7 rfl [(3, .long (lI (nmb B n f 4 lf))), (0, .ref o), (1, .int (iI f)), (2, .int (iI lf))] (by decide) rfl ?_
  have j19 : ∀ (ls : Int) (hls : ((nmb B n f 4 lf) < 0 ∧ ls = 1) ∨ (0 ≤ (nmb B n f 4 lf) ∧ ls = 0)), SW K G 11 0 0 19 [(3, .long (lI (nmb B n f 4 lf))), (0, .ref o), (1, .int (iI f)), (2, .int (iI lf))] [.int (iI ls)] [oMo o th n a e dn at9 dp po kd wh re pl base sg xt row ror xi xd np nw nr nb ns yt nrw nir yi yd inf9, aB G a 3000 B] := by
    intro ls hls
    refine s_istore X dX6_four_19 [(5, .int (iI ls)), (3, .long (lI (nmb B n f 4 lf))), (0, .ref o), (1, .int (iI f)), (2, .int (iI lf))] (by decide) rfl ?_
    refine s_lload_n X dX6_four_21 rfl 1 rfl ?_
    refine s_bipush 23 X dX6_four_22 (by decide) ?_
    refine s_lshr (z := (nmb B n f 4 lf) / 8388608) X dX6_four_24 (by exact lI_shr23 (by omega)) ?_
    refine s_ldc2 255 X dX6_four_25 tg925 (by decide) ?_
    refine s_land (z := (nmb B n f 4 lf) / 8388608 % 256) X dX6_four_28 (by exact land255 _) ?_
    refine s_cast (st' := [.long (lI (eb (nmb B n f 4 lf)))]) (by rw [eb_eq]) rfl rfl ?_
    refine s_l2i X dX6_four_29 ?_
    refine s_istore X dX6_four_30 [(6, .int (iI (eb (nmb B n f 4 lf)))), (5, .int (iI ls)), (3, .long (lI (nmb B n f 4 lf))), (0, .ref o), (1, .int (iI f)), (2, .int (iI lf))] (by decide) rfl ?_
    refine s_lload_n X dX6_four_32 rfl 2 rfl ?_
    refine s_ldc2 8388607 X dX6_four_33 tg964 (by decide) ?_
    refine s_land (z := fb (nmb B n f 4 lf)) X dX6_four_36 (by exact land8388607 _) ?_
    refine s_lstore X dX6_four_37 [(7, .long (lI (fb (nmb B n f 4 lf)))), (6, .int (iI (eb (nmb B n f 4 lf)))), (5, .int (iI ls)), (3, .long (lI (nmb B n f 4 lf))), (0, .ref o), (1, .int (iI f)), (2, .int (iI lf))] (by decide) rfl ?_
    have j60 : ∀ (x : Int) (hx : x = (if inf9 = 1 ∨ eb (nmb B n f 4 lf) = 255 then 1 else 0)), SW K G 11 0 0 60 [(7, .long (lI (fb (nmb B n f 4 lf)))), (6, .int (iI (eb (nmb B n f 4 lf)))), (5, .int (iI ls)), (3, .long (lI (nmb B n f 4 lf))), (0, .ref o), (1, .int (iI f)), (2, .int (iI lf))] [.int (iI x), .ref o] [oMo o th n a e dn at9 dp po kd wh re pl base sg xt row ror xi xd np nw nr nb ns yt nrw nir yi yd inf9, aB G a 3000 B] := by
      intro x hx
      refine s_put X dX6_four_60 fl_X6_171 tyX6_ok nmX6 0 rfl rfl (nb_nar (by subst hx; split <;> simp)) (nb_fit (by subst hx; split <;> simp)) (Nat.le_of_ble_eq_true rfl) [oMo o th n a e dn at9 dp po kd wh re pl base sg xt row ror xi xd np nw nr nb ns yt nrw nir yi yd x, aB G a 3000 B] rfl ?_
      have j98 : ∀ (v9 : UInt64) (hv9 : v9 = flS (nmb B n f 4 lf)), SW K G 11 0 0 98 [(7, .long (lI (fb (nmb B n f 4 lf)))), (6, .int (iI (eb (nmb B n f 4 lf)))), (5, .int (iI ls)), (3, .long (lI (nmb B n f 4 lf))), (0, .ref o), (1, .int (iI f)), (2, .int (iI lf))] [.double v9] [oMo o th n a e dn at9 dp po kd wh re pl base sg xt row ror xi xd np nw nr nb ns yt nrw nir yi yd x, aB G a 3000 B] := by
        intro v9 hv9
        refine s_dstore X dX6_four_98 [(9, .double v9), (7, .long (lI (fb (nmb B n f 4 lf)))), (6, .int (iI (eb (nmb B n f 4 lf)))), (5, .int (iI ls)), (3, .long (lI (nmb B n f 4 lf))), (0, .ref o), (1, .int (iI f)), (2, .int (iI lf))] (by decide) rfl ?_
        refine s_iload X dX6_four_100 3 rfl ?_
        refine s_if_eq X 112 dX6_four_102 (by decide) (by omega) (fun c102 => ?_) (fun c102 => ?_)
        · refine s_dload X dX6_four_112 0 rfl ?_
          refine s_dret X Y dX6_four_114 ?_
          refine ⟨x, ?_, rfl, ?_⟩
          · (first | (exfalso; omega) | (unfold flV; rw [← hv9]; first | (rw [if_pos (by omega)]; done) | (rw [if_neg (by omega)]; done)))
          · (first | (exfalso; omega) | (exact hx))
        · refine s_dconst0 X dX6_four_105 ?_
          refine s_dload X dX6_four_106 0 rfl ?_
          refine s_dsub X dX6_four_108 (NN_sub (by rw [hv9]; exact flS_NN (nmb B n f 4 lf))) ?_
          refine s_goto X 114 dX6_four_109 (by decide) ?_
          refine s_dret X Y dX6_four_114 ?_
          refine ⟨x, ?_, rfl, ?_⟩
          · (first | (exfalso; omega) | (unfold flV; rw [← hv9]; first | (rw [if_pos (by omega)]; done) | (rw [if_neg (by omega)]; done)))
          · (first | (exfalso; omega) | (exact hx))
      refine s_iload X dX6_four_63 1 rfl ?_
      refine s_if_ne X 81 dX6_four_65 (by decide) (by omega) (fun c65 => ?_) (fun c65 => ?_)
      · refine s_ldc2 8388608 X dX6_four_81 tg965 (by decide) ?_
        refine s_lload X dX6_four_84 0 rfl ?_
        refine s_ladd X dX6_four_86 ?_
        refine s_l2d X dX6_four_87 ?_
        refine s_iload X dX6_four_88 1 rfl ?_
        refine s_sipush 150 X dX6_four_90 (by decide) ?_
        refine s_isub X dX6_four_93 ?_
        refine s_callDS X lk_X6_174 [] [0, 1] (wr := [oMo o th n a e dn at9 dp po kd wh re pl base sg xt row ror xi xd np nw nr nb ns yt nrw nir yi yd x, aB G a 3000 B]) rfl rfl (by decide) (by decide) (by decide) (c_X6_power (kl K) G ((eb (nmb B n f 4 lf)) - 150) (by omega)) dX6_four_94 rfl rfl (Nat.le_of_ble_eq_true rfl) (by decide) (fun z3 w3 h3 => ?_)
        obtain ⟨rfl, rfl⟩ := h3
        show SW K G 11 0 0 97 [(7, .long (lI (fb (nmb B n f 4 lf)))), (6, .int (iI (eb (nmb B n f 4 lf)))), (5, .int (iI ls)), (3, .long (lI (nmb B n f 4 lf))), (0, .ref o), (1, .int (iI f)), (2, .int (iI lf))] [.double (scl FP.dconst1 4611686018427387904 ((eb (nmb B n f 4 lf)) - 150)), .double (FP.l2d (lI (8388608 + (fb (nmb B n f 4 lf)))))] [oMo o th n a e dn at9 dp po kd wh re pl base sg xt row ror xi xd np nw nr nb ns yt nrw nir yi yd x, aB G a 3000 B]
        refine s_dmul X dX6_four_97 (by rw [fx_mul (by omega) (by omega)]; exact n64_of (NN_scl2 (NN_i2d _) _)) ?_
        exact j98 (FP.dmul (FP.l2d (lI (8388608 + (fb (nmb B n f 4 lf))))) (scl FP.dconst1 4611686018427387904 ((eb (nmb B n f 4 lf)) - 150))) (by unfold flS; first | (rw [if_pos (by assumption), fx_mul (by omega) (by omega)]; done) | (rw [if_neg (by assumption), fx_mul (by omega) (by omega)]; done))
      · refine s_lload X dX6_four_68 0 rfl ?_
        refine s_l2d X dX6_four_70 ?_
        refine s_sipush (-149) X dX6_four_71 (by decide) ?_
        refine s_callDS X lk_X6_174 [] [0, 1] (wr := [oMo o th n a e dn at9 dp po kd wh re pl base sg xt row ror xi xd np nw nr nb ns yt nrw nir yi yd x, aB G a 3000 B]) rfl rfl (by decide) (by decide) (by decide) (c_X6_power (kl K) G (-149) (by omega)) dX6_four_74 rfl rfl (Nat.le_of_ble_eq_true rfl) (by decide) (fun z4 w4 h4 => ?_)
        obtain ⟨rfl, rfl⟩ := h4
        show SW K G 11 0 0 77 [(7, .long (lI (fb (nmb B n f 4 lf)))), (6, .int (iI (eb (nmb B n f 4 lf)))), (5, .int (iI ls)), (3, .long (lI (nmb B n f 4 lf))), (0, .ref o), (1, .int (iI f)), (2, .int (iI lf))] [.double (scl FP.dconst1 4611686018427387904 (-149)), .double (FP.l2d (lI (fb (nmb B n f 4 lf))))] [oMo o th n a e dn at9 dp po kd wh re pl base sg xt row ror xi xd np nw nr nb ns yt nrw nir yi yd x, aB G a 3000 B]
        refine s_dmul X dX6_four_77 (by rw [fx_mul (by omega) (by omega)]; exact n64_of (NN_scl2 (NN_i2d _) _)) ?_
        refine s_goto X 98 dX6_four_78 (by decide) ?_
        exact j98 (FP.dmul (FP.l2d (lI (fb (nmb B n f 4 lf)))) (scl FP.dconst1 4611686018427387904 (-149))) (by unfold flS; first | (rw [if_pos (by assumption), fx_mul (by omega) (by omega)]; done) | (rw [if_neg (by assumption), fx_mul (by omega) (by omega)]; done))
    refine s_aload_n X dX6_four_39 rfl 4 rfl ?_
    refine s_aload_n X dX6_four_40 rfl 4 rfl ?_
    refine s_get X dX6_four_41 fl_X6_171 0 rfl rfl ?_
    refine s_if_ne X 55 dX6_four_44 (by decide) (by omega) (fun c44 => ?_) (fun c44 => ?_)
    · refine s_iconst X dX6_four_55 ?_
      refine s_goto X 60 dX6_four_56 (by decide) ?_
      exact j60 1 (by first | rw [if_pos (by omega)] | rw [if_neg (by omega)])
    · refine s_iload X dX6_four_47 1 rfl ?_
      refine s_sipush 255 X dX6_four_49 (by decide) ?_
      refine s_icmp_ne X 59 dX6_four_52 (by decide) (by omega) (fun c52 => ?_) (fun c52 => ?_)
      · refine s_iconst X dX6_four_59 ?_
        exact j60 0 (by first | rw [if_pos (by omega)] | rw [if_neg (by omega)])
      · refine s_iconst X dX6_four_55 ?_
        refine s_goto X 60 dX6_four_56 (by decide) ?_
        exact j60 1 (by first | rw [if_pos (by omega)] | rw [if_neg (by omega)])
  refine s_lload_n X dX6_four_8 rfl 0 rfl ?_
  refine s_lconst0 X dX6_four_9 ?_
  refine s_lif_ge X 18 dX6_four_10 dX6_four_11 (by decide) (by omega) (fun c10 => ?_) (fun c10 => ?_)
  · refine s_iconst X dX6_four_18 ?_
    exact j19 0 (by omega)
  · refine s_iconst X dX6_four_14 ?_
    refine s_goto X 19 dX6_four_15 (by decide) ?_
    exact j19 1 (by omega)
set_option maxRecDepth 100000 in
set_option maxHeartbeats 4000000 in
theorem c_X6_number (l : Launch) (G : GX) (o : Nat) (a : Nat) (po : Nat) (xt : Nat) (xi : Nat) (xd : Nat) (yt : Nat) (yi : Nat) (yd : Nat) (th : Int) (n : Int) (e : Int) (dn : Int) (at9 : Int) (dp : Int) (kd : Int) (wh : Int) (pl : Int) (base : Int) (sg : Int) (row : Int) (ror : Int) (np : Int) (nw : Int) (nb : Int) (ns : Int) (nrw : Int) (nir : Int) (inf9 : Int) (re : UInt64) (nr : UInt64) (B : Nat → Nat) (w : Int) (lf : Int) (hn : 0 ≤ n ∧ n ≤ 3000) (hBb : ∀ j, B j < 256) (he : e = 0 ∨ e = 1) (hap : 0 ≤ at9 ∧ at9 < n) (hnp : np = at9) (hw : w = 1 ∨ w = 2 ∨ w = 4) (hlf : lf = 0 ∨ lf = 1) : CtI l G yX6_number cX6_number 3 (some .int) ({ frames := 2, cells := 0, slots := 0, locals := 49 } : Room) [.ref o, .int (iI w), .int (iI lf)] [oMo o th n a e dn at9 dp po kd wh re pl base sg xt row ror xi xd np nw nr nb ns yt nrw nir yi yd inf9, aB G a 3000 B] (fun (z9 : Int) (w9 : va_W) => ∃ (at2 : Int), ∃ (nw2 : Int), z9 = (nuA n e (at9 + 1 + w) (-99)) ∧ w9 = [oMo o th n a e dn at2 dp po kd wh re pl base sg xt row ror xi xd np nw2 nr nb ns yt nrw nir yi yd inf9, aB G a 3000 B] ∧ (z9 ≠ 0 → at2 = lkF n (at9 + 1 + w)) ∧ (z9 = -99 → nw2 = nmb B n (at9 + 1) w lf)) := by
  intro sz
  refine met_of (fun wc sz => va_Qi (qI _) (posW G wc sz) (va_A wc sz)) (by decide) [(0, .ref o), (1, .int (iI w)), (2, .int (iI lf))] rfl (Nat.le_of_ble_eq_true rfl) (fun K hK9 hnm X Y => ?_)
  subst hK9
  replace Y : RI K G (some .int) 0 0 _ := Y
  refine s_aload_n X dX6_number_0 rfl 0 rfl ?_
  refine s_iconst X dX6_number_1 ?_
  refine s_iload_n X dX6_number_2 rfl 1 rfl ?_
  refine s_iadd X dX6_number_3 ?_
  refine s_callIV X lk_X6_180 [0] [1] (wr := [aB G a 3000 B]) rfl rfl (by decide) (by decide) (by decide) (c_X6_came (kl K) G o a po xt xi xd yt yi yd th n e dn at9 dp kd wh pl base sg row ror np nw nb ns nrw nir inf9 re nr (1 + w) (by omega)) rfl rfl dX6_number_4 rfl rfl (Nat.le_of_ble_eq_true rfl) (by decide) (fun z1 w1 h1 => ?_)
  obtain ⟨rfl, rfl⟩ := h1
  show SW K G 3 0 0 7 [(0, .ref o), (1, .int (iI w)), (2, .int (iI lf))] [.int (iI (tf (np + (1 + w) ≤ n)))] [aB G a 3000 B, oMo o th n a e dn at9 dp po kd wh re pl base sg xt row ror xi xd np nw nr nb ns yt nrw nir yi yd inf9]
  refine s_tf_ne X 15 dX6_number_7 (by decide) (fun c7 => ?_) (fun c7 => ?_)
  · refine s_aload_n X dX6_number_15 rfl 0 rfl ?_
    refine s_aload_n X dX6_number_16 rfl 0 rfl ?_
    refine s_aload_n X dX6_number_17 rfl 0 rfl ?_
    refine s_get X dX6_number_18 fl_X6_102 1 rfl rfl ?_
    refine s_iconst X dX6_number_21 ?_
    refine s_iadd X dX6_number_22 ?_
    refine s_iload_n X dX6_number_23 rfl 1 rfl ?_
    refine s_iload_n X dX6_number_24 rfl 2 rfl ?_
    refine s_callLV X lk_X6_165 [1, 0] [] (wr := []) rfl rfl (by decide) (by decide) (by decide) (c_X6_signed (kl K) G o a po xt xi xd yt yi yd th n e dn at9 dp kd wh pl base sg row ror np nw nb ns nrw nir inf9 re nr B (at9 + 1) w lf (by assumption) (by assumption) (by omega) (by omega) (by omega)) rfl rfl dX6_number_25 rfl rfl (Nat.le_of_ble_eq_true rfl) (by decide) (fun z2 w2 h2 => ?_)
    obtain ⟨rfl, rfl⟩ := h2
    show SW K G 3 0 0 28 [(0, .ref o), (1, .int (iI w)), (2, .int (iI lf))] [.long (lI (nmb B n (at9 + 1) w lf)), .ref o] [oMo o th n a e dn at9 dp po kd wh re pl base sg xt row ror xi xd np nw nr nb ns yt nrw nir yi yd inf9, aB G a 3000 B]
    have q3 := nmb_R (B := B) (n := n) (i := (at9 + 1)) (w := w) (lf := lf) (by assumption) (by omega) (by omega) (by omega)
    refine s_put X dX6_number_28 fl_X6_77 tyX6_ok nmX6 0 rfl rfl (rfl) (rfl) (Nat.le_of_ble_eq_true rfl) [oMo o th n a e dn at9 dp po kd wh re pl base sg xt row ror xi xd np (nmb B n (at9 + 1) w lf) nr nb ns yt nrw nir yi yd inf9, aB G a 3000 B] rfl ?_
    refine s_aload_n X dX6_number_31 rfl 0 rfl ?_
    refine s_aload_n X dX6_number_32 rfl 0 rfl ?_
    refine s_get X dX6_number_33 fl_X6_102 0 rfl rfl ?_
    refine s_iconst X dX6_number_36 ?_
    refine s_iadd X dX6_number_37 ?_
    refine s_iload_n X dX6_number_38 rfl 1 rfl ?_
    refine s_iadd X dX6_number_39 ?_
    refine s_put X dX6_number_40 fl_X6_102 tyX6_ok nmX6 0 rfl rfl (rfl) (rfl) (Nat.le_of_ble_eq_true rfl) [oMo o th n a e dn ((at9 + 1) + w) dp po kd wh re pl base sg xt row ror xi xd np (nmb B n (at9 + 1) w lf) nr nb ns yt nrw nir yi yd inf9, aB G a 3000 B] rfl ?_
    refine s_bipush (-99) X dX6_number_43 (by decide) ?_
    refine s_iret X Y dX6_number_45 (rfl) ?_
    refine ⟨((at9 + 1) + w), (nmb B n (at9 + 1) w lf), ?_, rfl, ?_, ?_⟩
    · (first | (exfalso; omega) | (exact nuA_y (by omega)))
    · (first | (exfalso; omega) | (intro _; exact lk_y (by omega)))
    · (first | (exfalso; omega) | (intro _; rfl))
  · refine s_aload_n X dX6_number_10 rfl 0 rfl ?_
    refine s_callIV X lk_X6_132 [1] [0] (wr := [aB G a 3000 B]) rfl rfl (by decide) (by decide) (by decide) (c_X6_lacking (kl K) G o a po xt xi xd yt yi yd th n e dn at9 dp kd wh pl base sg row ror np nw nb ns nrw nir inf9 re nr (by omega)) rfl rfl dX6_number_11 rfl rfl (Nat.le_of_ble_eq_true rfl) (by decide) (fun z4 w4 h4 => ?_)
    obtain ⟨rfl, rfl⟩ := h4
    show SW K G 3 0 0 14 [(0, .ref o), (1, .int (iI w)), (2, .int (iI lf))] [.int (iI (if e = 0 then 0 else -7))] [aB G a 3000 B, oMo o th n a e dn (if e = 0 then at9 else n) dp po kd wh re pl base sg xt row ror xi xd np nw nr nb ns yt nrw nir yi yd inf9]
    refine s_perm (ws' := [oMo o th n a e dn (if e = 0 then at9 else n) dp po kd wh re pl base sg xt row ror xi xd np nw nr nb ns yt nrw nir yi yd inf9, aB G a 3000 B]) [1, 0] (by decide) rfl rfl ?_
    refine s_iret X Y dX6_number_14 (rfl) ?_
    refine ⟨(if e = 0 then at9 else n), nw, ?_, rfl, ?_, ?_⟩
    · (first | (exfalso; omega) | (exact nuA_n (by omega)))
    · (first | (exfalso; omega) | (intro h; exact lk_n (by omega) h))
    · (first | (exfalso; omega) | (intro h; exact absurd h (by split <;> decide)))
set_option maxRecDepth 100000 in
set_option maxHeartbeats 4000000 in
theorem c_X6_fixed (l : Launch) (G : GX) (o : Nat) (a : Nat) (po : Nat) (xt : Nat) (xi : Nat) (xd : Nat) (yt : Nat) (yi : Nat) (yd : Nat) (th : Int) (n : Int) (e : Int) (dn : Int) (at9 : Int) (dp : Int) (kd : Int) (wh : Int) (pl : Int) (base : Int) (sg : Int) (row : Int) (ror : Int) (np : Int) (nw : Int) (nb : Int) (ns : Int) (nrw : Int) (nir : Int) (inf9 : Int) (re : UInt64) (nr : UInt64) (B : Nat → Nat) (hn : 0 ≤ n ∧ n ≤ 3000) (hBb : ∀ j, B j < 256) (he : e = 0 ∨ e = 1) (hap : 0 ≤ at9 ∧ at9 < n) (hnp : np = at9) : CtI l G yX6_fixed cX6_fixed 5 (some .int) ({ frames := 2, cells := 0, slots := 0, locals := 49 } : Room) [.ref o] [oMo o th n a e dn at9 dp po kd wh re pl base sg xt row ror xi xd np nw nr nb ns yt nrw nir yi yd inf9, aB G a 3000 B] (fun (z9 : Int) (w9 : va_W) => ∃ (at2 : Int), ∃ (np2 : Int), ∃ (nr2 : UInt64), z9 = (fxA B n e at9) ∧ w9 = [oMo o th n a e dn at2 dp po kd wh re pl base sg xt row ror xi xd np2 nw nr2 nb ns yt nrw nir yi yd inf9, aB G a 3000 B] ∧ (z9 ≠ 0 → at2 = fxF B n at9 ∧ np2 = fxP B n at9) ∧ (z9 = 2 → nr2 = fxR B n at9)) := by
  intro sz
  refine met_of (fun wc sz => va_Qi (qI _) (posW G wc sz) (va_A wc sz)) (by decide) [(0, .ref o)] rfl (Nat.le_of_ble_eq_true rfl) (fun K hK9 hnm X Y => ?_)
  subst hK9
  replace Y : RI K G (some .int) 0 0 _ := Y
  refine s_aload_n X dX6_fixed_0 rfl 0 rfl ?_
  refine s_iconst X dX6_fixed_1 ?_
  refine s_callIV X lk_X6_180 [0] [1] (wr := [aB G a 3000 B]) rfl rfl (by decide) (by decide) (by decide) (c_X6_came (kl K) G o a po xt xi xd yt yi yd th n e dn at9 dp kd wh pl base sg row ror np nw nb ns nrw nir inf9 re nr 2 (by omega)) rfl rfl dX6_fixed_2 rfl rfl (Nat.le_of_ble_eq_true rfl) (by decide) (fun z1 w1 h1 => ?_)
  obtain ⟨rfl, rfl⟩ := h1
  show SW K G 5 0 0 5 [(0, .ref o)] [.int (iI (tf (np + 2 ≤ n)))] [aB G a 3000 B, oMo o th n a e dn at9 dp po kd wh re pl base sg xt row ror xi xd np nw nr nb ns yt nrw nir yi yd inf9]
  refine s_tf_ne X 13 dX6_fixed_5 (by decide) (fun c5 => ?_) (fun c5 => ?_)
  · refine s_aload_n X dX6_fixed_13 rfl 0 rfl ?_
    refine s_aload_n X dX6_fixed_14 rfl 0 rfl ?_
    refine s_get X dX6_fixed_15 fl_X6_102 1 rfl rfl ?_
    refine s_iconst X dX6_fixed_18 ?_
    refine s_iadd X dX6_fixed_19 ?_
    refine s_callIV X lk_X6_63 [1, 0] [] (wr := []) rfl rfl (by decide) (by decide) (by decide) (c_X6_byteAt (kl K) G o a po xt xi xd yt yi yd th n e dn at9 dp kd wh pl base sg row ror np nw nb ns nrw nir inf9 re nr B (at9 + 1) (by assumption) (by assumption) (by omega)) rfl rfl dX6_fixed_20 rfl rfl (Nat.le_of_ble_eq_true rfl) (by decide) (fun z2 w2 h2 => ?_)
    obtain ⟨rfl, rfl⟩ := h2
    show SW K G 5 0 0 23 [(0, .ref o)] [.int (iI (bA B n (at9 + 1)))] [oMo o th n a e dn at9 dp po kd wh re pl base sg xt row ror xi xd np nw nr nb ns yt nrw nir yi yd inf9, aB G a 3000 B]
    have q3 := bA_C n (at9 + 1) (by assumption : ∀ j, B j < 256)
    refine s_istore_n X dX6_fixed_23 rfl [(1, .int (iI (bA B n (at9 + 1)))), (0, .ref o)] (by decide) rfl ?_
    have j35 : ∀ (lf : Int) (hlf : lf = lfO (bA B n (at9 + 1))), SW K G 5 0 0 35 [(1, .int (iI (bA B n (at9 + 1)))), (0, .ref o)] [.int (iI lf)] [oMo o th n a e dn at9 dp po kd wh re pl base sg xt row ror xi xd np nw nr nb ns yt nrw nir yi yd inf9, aB G a 3000 B] := by
      intro lf hlf
      have hlc := lfO_C (bA B n (at9 + 1))
      refine s_istore_n X dX6_fixed_35 rfl [(2, .int (iI lf)), (1, .int (iI (bA B n (at9 + 1)))), (0, .ref o)] (by decide) rfl ?_
      have j49 : ∀ (s : Int) (hs : s = (bA B n (at9 + 1)) % 128), SW K G 5 0 0 49 [(2, .int (iI lf)), (1, .int (iI (bA B n (at9 + 1)))), (0, .ref o)] [.int (iI s)] [oMo o th n a e dn at9 dp po kd wh re pl base sg xt row ror xi xd np nw nr nb ns yt nrw nir yi yd inf9, aB G a 3000 B] := by
        intro s hs
        refine s_istore_n X dX6_fixed_49 rfl [(3, .int (iI s)), (2, .int (iI lf)), (1, .int (iI (bA B n (at9 + 1)))), (0, .ref o)] (by decide) rfl ?_
        refine s_iload_n X dX6_fixed_50 rfl 0 rfl ?_
        refine s_bipush 47 X dX6_fixed_51 (by decide) ?_
        refine s_icmp_le X 72 dX6_fixed_53 (by decide) (by omega) (fun c53 => ?_) (fun c53 => ?_)
        · have j83 : ∀ (w : Int) (hw : w = wO (bA B n (at9 + 1))), SW K G 5 0 0 83 [(3, .int (iI s)), (2, .int (iI lf)), (1, .int (iI (bA B n (at9 + 1)))), (0, .ref o)] [.int (iI w)] [oMo o th n a e dn at9 dp po kd wh re pl base sg xt row ror xi xd np nw nr nb ns yt nrw nir yi yd inf9, aB G a 3000 B] := by
            intro w hw
            refine s_istore X dX6_fixed_83 [(4, .int (iI w)), (3, .int (iI s)), (2, .int (iI lf)), (1, .int (iI (bA B n (at9 + 1)))), (0, .ref o)] (by decide) rfl ?_
            have hwc := wO_C (bA B n (at9 + 1))
            have hlc := lfO_C (bA B n (at9 + 1))
            refine s_aload_n X dX6_fixed_85 rfl 4 rfl ?_
            refine s_iconst X dX6_fixed_86 ?_
            refine s_iload X dX6_fixed_87 0 rfl ?_
            refine s_iadd X dX6_fixed_89 ?_
            refine s_callIV X lk_X6_180 [0] [1] (wr := [aB G a 3000 B]) rfl rfl (by decide) (by decide) (by decide) (c_X6_came (kl K) G o a po xt xi xd yt yi yd th n e dn at9 dp kd wh pl base sg row ror np nw nb ns nrw nir inf9 re nr (2 + w) (by omega)) rfl rfl dX6_fixed_90 rfl rfl (Nat.le_of_ble_eq_true rfl) (by decide) (fun z4 w4 h4 => ?_)
            obtain ⟨rfl, rfl⟩ := h4
            show SW K G 5 0 0 93 [(4, .int (iI w)), (3, .int (iI s)), (2, .int (iI lf)), (1, .int (iI (bA B n (at9 + 1)))), (0, .ref o)] [.int (iI (tf (np + (2 + w) ≤ n)))] [aB G a 3000 B, oMo o th n a e dn at9 dp po kd wh re pl base sg xt row ror xi xd np nw nr nb ns yt nrw nir yi yd inf9]
            refine s_tf_ne X 101 dX6_fixed_93 (by decide) (fun c93 => ?_) (fun c93 => ?_)
            · refine s_aload_n X dX6_fixed_101 rfl 4 rfl ?_
              refine s_aload_n X dX6_fixed_102 rfl 4 rfl ?_
              refine s_aload_n X dX6_fixed_103 rfl 4 rfl ?_
              refine s_get X dX6_fixed_104 fl_X6_102 1 rfl rfl ?_
              refine s_iconst X dX6_fixed_107 ?_
              refine s_iadd X dX6_fixed_108 ?_
              refine s_iload X dX6_fixed_109 0 rfl ?_
              refine s_iload_n X dX6_fixed_111 rfl 2 rfl ?_
              refine s_callLV X lk_X6_165 [1, 0] [] (wr := []) rfl rfl (by decide) (by decide) (by decide) (c_X6_signed (kl K) G o a po xt xi xd yt yi yd th n e dn at9 dp kd wh pl base sg row ror np nw nb ns nrw nir inf9 re nr B (at9 + 2) w lf (by assumption) (by assumption) (by omega) (by omega) (by omega)) rfl rfl dX6_fixed_112 rfl rfl (Nat.le_of_ble_eq_true rfl) (by decide) (fun z5 w5 h5 => ?_)
              obtain ⟨rfl, rfl⟩ := h5
              show SW K G 5 0 0 115 [(4, .int (iI w)), (3, .int (iI s)), (2, .int (iI lf)), (1, .int (iI (bA B n (at9 + 1)))), (0, .ref o)] [.long (lI (nmb B n (at9 + 2) w lf)), .ref o] [oMo o th n a e dn at9 dp po kd wh re pl base sg xt row ror xi xd np nw nr nb ns yt nrw nir yi yd inf9, aB G a 3000 B]
              have q6 := nmb_R (B := B) (n := n) (i := (at9 + 2)) (w := w) (lf := lf) (by assumption) (by omega) (by omega) (by omega)
              have hz := nmb_R (B := B) (n := n) (i := at9 + 2) (w := w) (lf := lf) hBb (by omega) (by omega) (by omega)
              refine s_l2d X dX6_fixed_115 ?_
              refine s_iload_n X dX6_fixed_116 rfl 1 rfl ?_
              refine s_bipush 32 X dX6_fixed_117 (by decide) ?_
              refine s_icmp_ge X 126 dX6_fixed_119 (by decide) (by omega) (fun c119 => ?_) (fun c119 => ?_)
              · refine s_iload_n X dX6_fixed_126 rfl 1 rfl ?_
                refine s_bipush 32 X dX6_fixed_127 (by decide) ?_
                refine s_isub X dX6_fixed_129 ?_
                refine s_callDS X lk_X6_174 [] [0, 1] (wr := [oMo o th n a e dn at9 dp po kd wh re pl base sg xt row ror xi xd np nw nr nb ns yt nrw nir yi yd inf9, aB G a 3000 B]) rfl rfl (by decide) (by decide) (by decide) (c_X6_power (kl K) G (s - 32) (by omega)) dX6_fixed_130 rfl rfl (Nat.le_of_ble_eq_true rfl) (by decide) (fun z7 w7 h7 => ?_)
                obtain ⟨rfl, rfl⟩ := h7
                show SW K G 5 0 0 133 [(4, .int (iI w)), (3, .int (iI s)), (2, .int (iI lf)), (1, .int (iI (bA B n (at9 + 1)))), (0, .ref o)] [.double (scl FP.dconst1 4611686018427387904 (s - 32)), .double (FP.l2d (lI (nmb B n (at9 + 2) w lf))), .ref o] [oMo o th n a e dn at9 dp po kd wh re pl base sg xt row ror xi xd np nw nr nb ns yt nrw nir yi yd inf9, aB G a 3000 B]
                refine s_ddiv X dX6_fixed_133 (by rw [fx_div (by omega) (by omega)]; exact n64_of (NN_scl2 (NN_i2d _) _)) ?_
                refine s_put X dX6_fixed_134 fl_X6_93 tyX6_ok nmX6 0 rfl rfl (rfl) (rfl) (Nat.le_of_ble_eq_true rfl) [oMo o th n a e dn at9 dp po kd wh re pl base sg xt row ror xi xd np nw (FP.ddiv (FP.l2d (lI (nmb B n (at9 + 2) w lf))) (scl FP.dconst1 4611686018427387904 (s - 32))) nb ns yt nrw nir yi yd inf9, aB G a 3000 B] rfl ?_
                refine s_aload_n X dX6_fixed_137 rfl 4 rfl ?_
                refine s_aload_n X dX6_fixed_138 rfl 4 rfl ?_
                refine s_get X dX6_fixed_139 fl_X6_102 0 rfl rfl ?_
                refine s_iconst X dX6_fixed_142 ?_
                refine s_iadd X dX6_fixed_143 ?_
                refine s_iload X dX6_fixed_144 0 rfl ?_
                refine s_iadd X dX6_fixed_146 ?_
                refine s_put X dX6_fixed_147 fl_X6_102 tyX6_ok nmX6 0 rfl rfl (rfl) (rfl) (Nat.le_of_ble_eq_true rfl) [oMo o th n a e dn ((at9 + 2) + w) dp po kd wh re pl base sg xt row ror xi xd np nw (FP.ddiv (FP.l2d (lI (nmb B n (at9 + 2) w lf))) (scl FP.dconst1 4611686018427387904 (s - 32))) nb ns yt nrw nir yi yd inf9, aB G a 3000 B] rfl ?_
                refine s_iconst X dX6_fixed_150 ?_
                refine s_iret X Y dX6_fixed_151 (rfl) ?_
                refine ⟨((at9 + 2) + w), np, (FP.ddiv (FP.l2d (lI (nmb B n (at9 + 2) w lf))) (scl FP.dconst1 4611686018427387904 (s - 32))), ?_, rfl, ?_, ?_⟩
                · (first | (exfalso; omega) | (exact (nuA_y (by omega)).trans (fx_ok e (by omega) (by omega) hw).1.symm))
                · (first | (exfalso; omega) | (intro _; have hh := fx_ok (B := B) (n := n) (p := at9) e (by omega) (by omega) hw; rw [hh.2.1, hh.2.2]; exact ⟨lk_y (by omega), hnp⟩))
                · (first | (exfalso; omega) | (intro _; unfold fxR fxV; rw [fx_div (by omega) (by omega), ← hw, ← hlf]; congr 1; omega))
              · refine s_iload_n X dX6_fixed_122 rfl 1 rfl ?_
                refine s_goto X 130 dX6_fixed_123 (by decide) ?_
                refine s_callDS X lk_X6_174 [] [0, 1] (wr := [oMo o th n a e dn at9 dp po kd wh re pl base sg xt row ror xi xd np nw nr nb ns yt nrw nir yi yd inf9, aB G a 3000 B]) rfl rfl (by decide) (by decide) (by decide) (c_X6_power (kl K) G s (by omega)) dX6_fixed_130 rfl rfl (Nat.le_of_ble_eq_true rfl) (by decide) (fun z8 w8 h8 => ?_)
                obtain ⟨rfl, rfl⟩ := h8
                show SW K G 5 0 0 133 [(4, .int (iI w)), (3, .int (iI s)), (2, .int (iI lf)), (1, .int (iI (bA B n (at9 + 1)))), (0, .ref o)] [.double (scl FP.dconst1 4611686018427387904 s), .double (FP.l2d (lI (nmb B n (at9 + 2) w lf))), .ref o] [oMo o th n a e dn at9 dp po kd wh re pl base sg xt row ror xi xd np nw nr nb ns yt nrw nir yi yd inf9, aB G a 3000 B]
                refine s_ddiv X dX6_fixed_133 (by rw [fx_div (by omega) (by omega)]; exact n64_of (NN_scl2 (NN_i2d _) _)) ?_
                refine s_put X dX6_fixed_134 fl_X6_93 tyX6_ok nmX6 0 rfl rfl (rfl) (rfl) (Nat.le_of_ble_eq_true rfl) [oMo o th n a e dn at9 dp po kd wh re pl base sg xt row ror xi xd np nw (FP.ddiv (FP.l2d (lI (nmb B n (at9 + 2) w lf))) (scl FP.dconst1 4611686018427387904 s)) nb ns yt nrw nir yi yd inf9, aB G a 3000 B] rfl ?_
                refine s_aload_n X dX6_fixed_137 rfl 4 rfl ?_
                refine s_aload_n X dX6_fixed_138 rfl 4 rfl ?_
                refine s_get X dX6_fixed_139 fl_X6_102 0 rfl rfl ?_
                refine s_iconst X dX6_fixed_142 ?_
                refine s_iadd X dX6_fixed_143 ?_
                refine s_iload X dX6_fixed_144 0 rfl ?_
                refine s_iadd X dX6_fixed_146 ?_
                refine s_put X dX6_fixed_147 fl_X6_102 tyX6_ok nmX6 0 rfl rfl (rfl) (rfl) (Nat.le_of_ble_eq_true rfl) [oMo o th n a e dn ((at9 + 2) + w) dp po kd wh re pl base sg xt row ror xi xd np nw (FP.ddiv (FP.l2d (lI (nmb B n (at9 + 2) w lf))) (scl FP.dconst1 4611686018427387904 s)) nb ns yt nrw nir yi yd inf9, aB G a 3000 B] rfl ?_
                refine s_iconst X dX6_fixed_150 ?_
                refine s_iret X Y dX6_fixed_151 (rfl) ?_
                refine ⟨((at9 + 2) + w), np, (FP.ddiv (FP.l2d (lI (nmb B n (at9 + 2) w lf))) (scl FP.dconst1 4611686018427387904 s)), ?_, rfl, ?_, ?_⟩
                · (first | (exfalso; omega) | (exact (nuA_y (by omega)).trans (fx_ok e (by omega) (by omega) hw).1.symm))
                · (first | (exfalso; omega) | (intro _; have hh := fx_ok (B := B) (n := n) (p := at9) e (by omega) (by omega) hw; rw [hh.2.1, hh.2.2]; exact ⟨lk_y (by omega), hnp⟩))
                · (first | (exfalso; omega) | (intro _; unfold fxR fxV; rw [fx_div (by omega) (by omega), ← hw, ← hlf]; congr 1; omega))
            · refine s_aload_n X dX6_fixed_96 rfl 4 rfl ?_
              refine s_callIV X lk_X6_132 [1] [0] (wr := [aB G a 3000 B]) rfl rfl (by decide) (by decide) (by decide) (c_X6_lacking (kl K) G o a po xt xi xd yt yi yd th n e dn at9 dp kd wh pl base sg row ror np nw nb ns nrw nir inf9 re nr (by omega)) rfl rfl dX6_fixed_97 rfl rfl (Nat.le_of_ble_eq_true rfl) (by decide) (fun z9 w9 h9 => ?_)
              obtain ⟨rfl, rfl⟩ := h9
              show SW K G 5 0 0 100 [(4, .int (iI w)), (3, .int (iI s)), (2, .int (iI lf)), (1, .int (iI (bA B n (at9 + 1)))), (0, .ref o)] [.int (iI (if e = 0 then 0 else -7))] [aB G a 3000 B, oMo o th n a e dn (if e = 0 then at9 else n) dp po kd wh re pl base sg xt row ror xi xd np nw nr nb ns yt nrw nir yi yd inf9]
              refine s_perm (ws' := [oMo o th n a e dn (if e = 0 then at9 else n) dp po kd wh re pl base sg xt row ror xi xd np nw nr nb ns yt nrw nir yi yd inf9, aB G a 3000 B]) [1, 0] (by decide) rfl rfl ?_
              refine s_iret X Y dX6_fixed_100 (rfl) ?_
              refine ⟨(if e = 0 then at9 else n), np, nr, ?_, rfl, ?_, ?_⟩
              · (first | (exfalso; omega) | (exact (nuA_n (by omega)).trans (fx_ok e (by omega) (by omega) hw).1.symm))
              · (first | (exfalso; omega) | (intro h; have hh := fx_ok (B := B) (n := n) (p := at9) e (by omega) (by omega) hw; rw [hh.2.1, hh.2.2]; exact ⟨lk_n (by omega) h, hnp⟩))
              · (first | (exfalso; omega) | (intro h; exact absurd h (by split <;> decide)))
          refine s_iload_n X dX6_fixed_72 rfl 0 rfl ?_
          refine s_bipush 32 X dX6_fixed_73 (by decide) ?_
          refine s_icmp_ge X 82 dX6_fixed_75 (by decide) (by omega) (fun c75 => ?_) (fun c75 => ?_)
          · refine s_iconst X dX6_fixed_82 ?_
            exact j83 2 (by have h9 := wO_C (bA B n (at9 + 1)); omega)
          · refine s_iconst X dX6_fixed_78 ?_
            refine s_goto X 83 dX6_fixed_79 (by decide) ?_
            exact j83 4 (by have h9 := wO_C (bA B n (at9 + 1)); omega)
        · refine s_aload_n X dX6_fixed_56 rfl 3 rfl ?_
          refine s_dup X dX6_fixed_57 rfl ?_
          refine s_get X dX6_fixed_58 fl_X6_102 0 rfl rfl ?_
          refine s_iconst X dX6_fixed_61 ?_
          refine s_iadd X dX6_fixed_62 ?_
          refine s_put X dX6_fixed_63 fl_X6_102 tyX6_ok nmX6 0 rfl rfl (rfl) (rfl) (Nat.le_of_ble_eq_true rfl) [oMo o th n a e dn (at9 + 1) dp po kd wh re pl base sg xt row ror xi xd np nw nr nb ns yt nrw nir yi yd inf9, aB G a 3000 B] rfl ?_
          refine s_aload_n X dX6_fixed_66 rfl 3 rfl ?_
          refine s_iconst X dX6_fixed_67 ?_
          refine s_callIV X lk_X6_138 [0] [1] (wr := [aB G a 3000 B]) rfl rfl (by decide) (by decide) (by decide) (c_X6_wrongByte (kl K) G o a po xt xi xd yt yi yd th n e dn (at9 + 1) dp kd wh pl base sg row ror np nw nb ns nrw nir inf9 re nr 4) rfl rfl dX6_fixed_68 rfl rfl (Nat.le_of_ble_eq_true rfl) (by decide) (fun z10 w10 h10 => ?_)
          obtain ⟨rfl, rfl⟩ := h10
          show SW K G 5 0 0 71 [(3, .int (iI s)), (2, .int (iI lf)), (1, .int (iI (bA B n (at9 + 1)))), (0, .ref o)] [.int (iI (-1 - 4))] [aB G a 3000 B, oMo o th n a e dn ((at9 + 1) + 1) dp po kd wh re pl base sg xt row ror xi xd (at9 + 1) nw nr nb ns yt nrw nir yi yd inf9]
          refine s_perm (ws' := [oMo o th n a e dn ((at9 + 1) + 1) dp po kd wh re pl base sg xt row ror xi xd (at9 + 1) nw nr nb ns yt nrw nir yi yd inf9, aB G a 3000 B]) [1, 0] (by decide) rfl rfl ?_
          refine s_iret X Y dX6_fixed_71 (rfl) ?_
          refine ⟨((at9 + 1) + 1), (at9 + 1), nr, ?_, rfl, ?_, ?_⟩
          · (first | (exfalso; omega) | (exact (fx_wr e (by omega) (by omega)).1.symm))
          · (first | (exfalso; omega) | (intro _; have hh := fx_wr (B := B) (n := n) (p := at9) e (by omega) (by omega); rw [hh.2.1, hh.2.2]; exact ⟨by omega, rfl⟩))
          · (first | (exfalso; omega) | (intro h; exact absurd h (by decide)))
      refine s_iload_n X dX6_fixed_36 rfl 0 rfl ?_
      refine s_if_eq X 48 dX6_fixed_37 (by decide) (by omega) (fun c37 => ?_) (fun c37 => ?_)
      · refine s_iload_n X dX6_fixed_48 rfl 1 rfl ?_
        exact j49 (bA B n (at9 + 1)) (by have h9 := lfO_C (bA B n (at9 + 1)); omega)
      · refine s_iload_n X dX6_fixed_40 rfl 1 rfl ?_
        refine s_sipush 128 X dX6_fixed_41 (by decide) ?_
        refine s_isub X dX6_fixed_44 ?_
        refine s_goto X 49 dX6_fixed_45 (by decide) ?_
        exact j49 ((bA B n (at9 + 1)) - 128) (by have h9 := lfO_C (bA B n (at9 + 1)); omega)
    refine s_iload_n X dX6_fixed_24 rfl 0 rfl ?_
    refine s_bipush 127 X dX6_fixed_25 (by decide) ?_
    refine s_icmp_le X 34 dX6_fixed_27 (by decide) (by omega) (fun c27 => ?_) (fun c27 => ?_)
    · refine s_iconst X dX6_fixed_34 ?_
      exact j35 0 (by have h9 := lfO_C (bA B n (at9 + 1)); omega)
    · refine s_iconst X dX6_fixed_30 ?_
      refine s_goto X 35 dX6_fixed_31 (by decide) ?_
      exact j35 1 (by have h9 := lfO_C (bA B n (at9 + 1)); omega)
  · refine s_aload_n X dX6_fixed_8 rfl 0 rfl ?_
    refine s_callIV X lk_X6_132 [1] [0] (wr := [aB G a 3000 B]) rfl rfl (by decide) (by decide) (by decide) (c_X6_lacking (kl K) G o a po xt xi xd yt yi yd th n e dn at9 dp kd wh pl base sg row ror np nw nb ns nrw nir inf9 re nr (by omega)) rfl rfl dX6_fixed_9 rfl rfl (Nat.le_of_ble_eq_true rfl) (by decide) (fun z11 w11 h11 => ?_)
    obtain ⟨rfl, rfl⟩ := h11
    show SW K G 5 0 0 12 [(0, .ref o)] [.int (iI (if e = 0 then 0 else -7))] [aB G a 3000 B, oMo o th n a e dn (if e = 0 then at9 else n) dp po kd wh re pl base sg xt row ror xi xd np nw nr nb ns yt nrw nir yi yd inf9]
    refine s_perm (ws' := [oMo o th n a e dn (if e = 0 then at9 else n) dp po kd wh re pl base sg xt row ror xi xd np nw nr nb ns yt nrw nir yi yd inf9, aB G a 3000 B]) [1, 0] (by decide) rfl rfl ?_
    refine s_iret X Y dX6_fixed_12 (rfl) ?_
    refine ⟨(if e = 0 then at9 else n), np, nr, ?_, rfl, ?_, ?_⟩
    · (first | (exfalso; omega) | (exact (fx_lk e (by omega)).1.symm))
    · (first | (exfalso; omega) | (intro h; have hh := fx_lk (B := B) (n := n) (p := at9) e (by omega); rw [hh.2.1, hh.2.2]; exact ⟨lk_e h, hnp⟩))
    · (first | (exfalso; omega) | (intro h; exact absurd h (by split <;> decide)))
set_option maxRecDepth 100000 in
set_option maxHeartbeats 4000000 in
theorem c_X6_string (l : Launch) (G : GX) (o : Nat) (a : Nat) (po : Nat) (xt : Nat) (xi : Nat) (xd : Nat) (yt : Nat) (yi : Nat) (yd : Nat) (th : Int) (n : Int) (e : Int) (dn : Int) (at9 : Int) (dp : Int) (kd : Int) (wh : Int) (pl : Int) (base : Int) (sg : Int) (row : Int) (ror : Int) (np : Int) (nw : Int) (nb : Int) (ns : Int) (nrw : Int) (nir : Int) (inf9 : Int) (re : UInt64) (nr : UInt64) (B : Nat → Nat) (t : Nat → Nat) (w : Int) (lf : Int) (hn : 0 ≤ n ∧ n ≤ 3000) (hBb : ∀ j, B j < 256) (he : e = 0 ∨ e = 1) (hap : 0 ≤ at9 ∧ at9 < n) (hnp : np = at9) (hns0 : ns = 0) (htb : ∀ j, t j < 256) (hw : w = 1 ∨ w = 2) (hlf : lf = 0 ∨ lf = 1) : CtI l G yX6_string cX6_string 5 (some .int) ({ frames := 1, cells := 0, slots := 0, locals := 21 } : Room) [.ref o, .int (iI w), .int (iI lf)] [oMo o th n a e dn at9 dp po kd wh re pl base sg xt row ror xi xd np nw nr nb ns yt nrw nir yi yd inf9, aB G a 3000 B, aB G yt 400 t] (fun (z9 : Int) (w9 : va_W) => ∃ (at2 : Int), ∃ (nw2 : Int), ∃ (ns2 : Int), ∃ (t2 : Nat → Nat), z9 = (sbA B n e at9 w lf) ∧ w9 = [oMo o th n a e dn at2 dp po kd wh re pl base sg xt row ror xi xd np nw2 nr nb ns2 yt nrw nir yi yd inf9, aB G a 3000 B, aB G yt 400 t2] ∧ (z9 ≠ 0 → at2 = sbF B n at9 w lf) ∧ (z9 = 6 → nw2 = (sbM B n at9 w lf) ∧ TY t2 ns2 (wL B (at9 + 1 + w) (sbM B n at9 w lf).toNat)) ∧ (∀ j, t2 j < 256)) := by
  intro sz
  refine met_of (fun wc sz => va_Qi (qI _) (posW G wc sz) (va_A wc sz)) (by decide) [(0, .ref o), (1, .int (iI w)), (2, .int (iI lf))] rfl (Nat.le_of_ble_eq_true rfl) (fun K hK9 hnm X Y => ?_)
  subst hK9
  replace Y : RI K G (some .int) 0 0 _ := Y
  refine s_aload_n X dX6_string_0 rfl 0 rfl ?_
  refine s_iconst X dX6_string_1 ?_
  refine s_iload_n X dX6_string_2 rfl 1 rfl ?_
  refine s_iadd X dX6_string_3 ?_
  refine s_callIV X lk_X6_180 [0] [1, 2] (wr := [aB G a 3000 B, aB G yt 400 t]) rfl rfl (by decide) (by decide) (by decide) (c_X6_came (kl K) G o a po xt xi xd yt yi yd th n e dn at9 dp kd wh pl base sg row ror np nw nb ns nrw nir inf9 re nr (1 + w) (by omega)) rfl rfl dX6_string_4 rfl rfl (Nat.le_of_ble_eq_true rfl) (by decide) (fun z1 w1 h1 => ?_)
  obtain ⟨rfl, rfl⟩ := h1
  show SW K G 5 0 0 7 [(0, .ref o), (1, .int (iI w)), (2, .int (iI lf))] [.int (iI (tf (np + (1 + w) ≤ n)))] [aB G a 3000 B, aB G yt 400 t, oMo o th n a e dn at9 dp po kd wh re pl base sg xt row ror xi xd np nw nr nb ns yt nrw nir yi yd inf9]
  refine s_tf_ne X 15 dX6_string_7 (by decide) (fun c7 => ?_) (fun c7 => ?_)
  · refine s_aload_n X dX6_string_15 rfl 0 rfl ?_
    refine s_aload_n X dX6_string_16 rfl 0 rfl ?_
    refine s_get X dX6_string_17 fl_X6_102 2 rfl rfl ?_
    refine s_iconst X dX6_string_20 ?_
    refine s_iadd X dX6_string_21 ?_
    refine s_callIV X lk_X6_63 [2, 0] [1] (wr := [aB G yt 400 t]) rfl rfl (by decide) (by decide) (by decide) (c_X6_byteAt (kl K) G o a po xt xi xd yt yi yd th n e dn at9 dp kd wh pl base sg row ror np nw nb ns nrw nir inf9 re nr B (at9 + 1) (by assumption) (by assumption) (by omega)) rfl rfl dX6_string_22 rfl rfl (Nat.le_of_ble_eq_true rfl) (by decide) (fun z2 w2 h2 => ?_)
    obtain ⟨rfl, rfl⟩ := h2
    show SW K G 5 0 0 25 [(0, .ref o), (1, .int (iI w)), (2, .int (iI lf))] [.int (iI (bA B n (at9 + 1)))] [aB G yt 400 t, oMo o th n a e dn at9 dp po kd wh re pl base sg xt row ror xi xd np nw nr nb ns yt nrw nir yi yd inf9, aB G a 3000 B]
    have q3 := bA_C n (at9 + 1) (by assumption : ∀ j, B j < 256)
    refine s_istore_n X dX6_string_25 rfl [(3, .int (iI (bA B n (at9 + 1)))), (0, .ref o), (1, .int (iI w)), (2, .int (iI lf))] (by decide) rfl ?_
    have j74 : ∀ (mm : Int) (hmm : mm = (sbM B n at9 w lf)), SW K G 5 0 0 74 [(3, .int (iI (bA B n (at9 + 1)))), (0, .ref o), (1, .int (iI w)), (2, .int (iI lf))] [.int (iI mm)] [aB G yt 400 t, oMo o th n a e dn at9 dp po kd wh re pl base sg xt row ror xi xd np nw nr nb ns yt nrw nir yi yd inf9, aB G a 3000 B] := by
      intro mm hmm
      have hmR : uR w (sbM B n at9 w lf) := uu_R hBb (by omega) (by omega) hlf
      refine s_istore_n X dX6_string_74 rfl [(3, .int (iI mm)), (0, .ref o), (1, .int (iI w)), (2, .int (iI lf))] (by decide) rfl ?_
      refine s_aload_n X dX6_string_75 rfl 1 rfl ?_
      refine s_iconst X dX6_string_76 ?_
      refine s_iload_n X dX6_string_77 rfl 2 rfl ?_
      refine s_iadd X dX6_string_78 ?_
      refine s_iload_n X dX6_string_79 rfl 0 rfl ?_
      refine s_iadd X dX6_string_80 ?_
      refine s_callIV X lk_X6_180 [1] [0, 2] (wr := [aB G yt 400 t, aB G a 3000 B]) rfl rfl (by decide) (by decide) (by decide) (c_X6_came (kl K) G o a po xt xi xd yt yi yd th n e dn at9 dp kd wh pl base sg row ror np nw nb ns nrw nir inf9 re nr ((1 + w) + mm) (by omega)) rfl rfl dX6_string_81 rfl rfl (Nat.le_of_ble_eq_true rfl) (by decide) (fun z4 w4 h4 => ?_)
      obtain ⟨rfl, rfl⟩ := h4
      show SW K G 5 0 0 84 [(3, .int (iI mm)), (0, .ref o), (1, .int (iI w)), (2, .int (iI lf))] [.int (iI (tf (np + ((1 + w) + mm) ≤ n)))] [aB G yt 400 t, aB G a 3000 B, oMo o th n a e dn at9 dp po kd wh re pl base sg xt row ror xi xd np nw nr nb ns yt nrw nir yi yd inf9]
      refine s_tf_ne X 92 dX6_string_84 (by decide) (fun c84 => ?_) (fun c84 => ?_)
      · refine s_iconst X dX6_string_92 ?_
        refine s_istore X dX6_string_93 [(4, .int (iI 0)), (3, .int (iI mm)), (0, .ref o), (1, .int (iI w)), (2, .int (iI lf))] (by decide) rfl ?_
        have lp : ∀ (m9 : Nat) (q : Int) (m : Int) (tt : Nat → Nat) (h1 : 0 ≤ q ∧ (q ≤ mm ∨ q = 0) ∧ m = q) (h3 : TY tt m (wL B (at9 + 1 + w) q.toNat)), (mm - q).toNat < m9 → SW K G 5 0 0 95 [(4, .int (iI q)), (3, .int (iI mm)), (0, .ref o), (1, .int (iI w)), (2, .int (iI lf))] [] [oMo o th n a e dn at9 dp po kd wh re pl base sg xt row ror xi xd np nw nr nb m yt nrw nir yi yd inf9, aB G a 3000 B, aB G yt 400 tt] := by
          intro m9
          induction m9 with
          | zero => intro q m tt h1 h3 hm9; exact absurd hm9 (Nat.not_lt_zero _)
          | succ m9 ih9 =>
            intro q m tt h1 h3 hm9
            refine s_iload X dX6_string_95 0 rfl ?_
            refine s_iload_n X dX6_string_97 rfl 1 rfl ?_
            refine s_icmp_ge X 126 dX6_string_98 (by decide) (by omega) (fun c98 => ?_) (fun c98 => ?_)
            · have hq9 : q = mm := by omega
              refine s_aload_n X dX6_string_126 rfl 2 rfl ?_
              refine s_aload_n X dX6_string_127 rfl 2 rfl ?_
              refine s_get X dX6_string_128 fl_X6_102 0 rfl rfl ?_
              refine s_iconst X dX6_string_131 ?_
              refine s_iadd X dX6_string_132 ?_
              refine s_iload_n X dX6_string_133 rfl 3 rfl ?_
              refine s_iadd X dX6_string_134 ?_
              refine s_iload_n X dX6_string_135 rfl 1 rfl ?_
              refine s_iadd X dX6_string_136 ?_
              refine s_put X dX6_string_137 fl_X6_102 tyX6_ok nmX6 0 rfl rfl (rfl) (rfl) (Nat.le_of_ble_eq_true rfl) [oMo o th n a e dn (((at9 + 1) + w) + mm) dp po kd wh re pl base sg xt row ror xi xd np nw nr nb m yt nrw nir yi yd inf9, aB G a 3000 B, aB G yt 400 tt] rfl ?_
              refine s_aload_n X dX6_string_140 rfl 2 rfl ?_
              refine s_callIV X lk_X6_129 [0] [1, 2] (wr := [aB G a 3000 B, aB G yt 400 tt]) rfl rfl (by decide) (by decide) (by decide) (c_X6_finished (kl K) G o a po xt xi xd yt yi yd th n e dn (((at9 + 1) + w) + mm) dp kd wh pl base sg row ror np nw nb m nrw nir inf9 re nr (by omega)) rfl rfl dX6_string_141 rfl rfl (Nat.le_of_ble_eq_true rfl) (by decide) (fun z5 w5 h5 => ?_)
              obtain ⟨rfl, rfl⟩ := h5
              show SW K G 5 0 0 144 [(4, .int (iI q)), (3, .int (iI mm)), (0, .ref o), (1, .int (iI w)), (2, .int (iI lf))] [.int (iI (if 400 < m then -2 else 6))] [aB G a 3000 B, aB G yt 400 tt, oMo o th n a e dn (((at9 + 1) + w) + mm) dp po kd wh re pl base sg xt row ror xi xd np m nr nb m yt nrw nir yi yd inf9]
              refine s_perm (ws' := [oMo o th n a e dn (((at9 + 1) + w) + mm) dp po kd wh re pl base sg xt row ror xi xd np m nr nb m yt nrw nir yi yd inf9, aB G a 3000 B, aB G yt 400 tt]) [2, 0, 1] (by decide) rfl rfl ?_
              refine s_iret X Y dX6_string_144 (rfl) ?_
              refine ⟨(((at9 + 1) + w) + mm), m, m, tt, ?_, rfl, ?_, ?_, ?_⟩
              · (first | (exfalso; omega) | (rw [(sb_y (B := B) e (by omega) hmm).1, ← nuA_y (q := at9 + 1 + w + mm) (by omega), h1.2.2, hq9]))
              · (first | (exfalso; omega) | (intro _; rw [(sb_y (B := B) e (by omega) hmm).2]; exact lk_y (by omega)))
              · (first | (exfalso; omega) | (intro _; rw [← hmm, ← hq9]; exact ⟨h1.2.2, h3⟩))
              · (first | (exfalso; omega) | (exact h3.2.2))
            · refine s_aload_n X dX6_string_101 rfl 2 rfl ?_
              refine s_aload_n X dX6_string_102 rfl 2 rfl ?_
              refine s_aload_n X dX6_string_103 rfl 2 rfl ?_
              refine s_get X dX6_string_104 fl_X6_102 0 rfl rfl ?_
              refine s_iconst X dX6_string_107 ?_
              refine s_iadd X dX6_string_108 ?_
              refine s_iload_n X dX6_string_109 rfl 3 rfl ?_
              refine s_iadd X dX6_string_110 ?_
              refine s_iload X dX6_string_111 0 rfl ?_
              refine s_iadd X dX6_string_113 ?_
              refine s_callIV X lk_X6_63 [0, 1] [2] (wr := [aB G yt 400 tt]) rfl rfl (by decide) (by decide) (by decide) (c_X6_byteAt (kl K) G o a po xt xi xd yt yi yd th n e dn at9 dp kd wh pl base sg row ror np nw nb m nrw nir inf9 re nr B (((at9 + 1) + w) + q) (by assumption) (by assumption) (by omega)) rfl rfl dX6_string_114 rfl rfl (Nat.le_of_ble_eq_true rfl) (by decide) (fun z6 w6 h6 => ?_)
              obtain ⟨rfl, rfl⟩ := h6
              show SW K G 5 0 0 117 [(4, .int (iI q)), (3, .int (iI mm)), (0, .ref o), (1, .int (iI w)), (2, .int (iI lf))] [.int (iI (bA B n (((at9 + 1) + w) + q))), .ref o] [aB G yt 400 tt, oMo o th n a e dn at9 dp po kd wh re pl base sg xt row ror xi xd np nw nr nb m yt nrw nir yi yd inf9, aB G a 3000 B]
              have q7 := bA_C n (((at9 + 1) + w) + q) (by assumption : ∀ j, B j < 256)
              refine s_callVV X lk_X6_122 [1, 0] [2] (wr := [aB G a 3000 B]) rfl rfl (by decide) (by decide) (by decide) (c_X6_putSign (kl K) G o a po xt xi xd yt yi yd th n e dn at9 dp kd wh pl base sg row ror np nw nb m nrw nir inf9 re nr tt (bA B n (((at9 + 1) + w) + q)) (by omega)) rfl rfl dX6_string_117 rfl rfl (Nat.le_of_ble_eq_true rfl) (by decide) (fun w8 h8 => ?_)
              obtain rfl := h8
              show SW K G 5 0 0 120 [(4, .int (iI q)), (3, .int (iI mm)), (0, .ref o), (1, .int (iI w)), (2, .int (iI lf))] [] [aB G a 3000 B, oMo o th n a e dn at9 dp po kd wh re pl base sg xt row ror xi xd np nw nr nb (m + 1) yt nrw nir yi yd inf9, aB G yt 400 (putY tt m (bA B n (((at9 + 1) + w) + q)))]
              refine s_iinc (z := q + 1) X dX6_string_120 0 rfl (by first | rfl | omega) [(4, .int (iI (q + 1))), (3, .int (iI mm)), (0, .ref o), (1, .int (iI w)), (2, .int (iI lf))] (by decide) rfl ?_
              refine s_goto X 95 dX6_string_123 (by decide) ?_
              refine s_perm (ws' := [oMo o th n a e dn at9 dp po kd wh re pl base sg xt row ror xi xd np nw nr nb (m + 1) yt nrw nir yi yd inf9, aB G a 3000 B, aB G yt 400 (putY tt m (bA B n (((at9 + 1) + w) + q)))]) [1, 0, 2] (by decide) rfl rfl ?_
              exact ih9 (q + 1) (m + 1) (putY tt m (bA B n (((at9 + 1) + w) + q))) (by omega) (by rw [← wL_put (n := n) hBb ⟨h1.1, by omega, by omega⟩]; exact TY_put h3) (by omega)
        refine s_perm (ws' := [oMo o th n a e dn at9 dp po kd wh re pl base sg xt row ror xi xd np nw nr nb ns yt nrw nir yi yd inf9, aB G a 3000 B, aB G yt 400 t]) [2, 1, 0] (by decide) rfl rfl ?_
        exact lp _ 0 ns t (by omega) (by subst hns0; exact TY_0 htb) (Nat.lt_succ_self _)
      · refine s_aload_n X dX6_string_87 rfl 1 rfl ?_
        refine s_callIV X lk_X6_132 [2] [0, 1] (wr := [aB G yt 400 t, aB G a 3000 B]) rfl rfl (by decide) (by decide) (by decide) (c_X6_lacking (kl K) G o a po xt xi xd yt yi yd th n e dn at9 dp kd wh pl base sg row ror np nw nb ns nrw nir inf9 re nr (by omega)) rfl rfl dX6_string_88 rfl rfl (Nat.le_of_ble_eq_true rfl) (by decide) (fun z9 w9 h9 => ?_)
        obtain ⟨rfl, rfl⟩ := h9
        show SW K G 5 0 0 91 [(3, .int (iI mm)), (0, .ref o), (1, .int (iI w)), (2, .int (iI lf))] [.int (iI (if e = 0 then 0 else -7))] [aB G yt 400 t, aB G a 3000 B, oMo o th n a e dn (if e = 0 then at9 else n) dp po kd wh re pl base sg xt row ror xi xd np nw nr nb ns yt nrw nir yi yd inf9]
        refine s_perm (ws' := [oMo o th n a e dn (if e = 0 then at9 else n) dp po kd wh re pl base sg xt row ror xi xd np nw nr nb ns yt nrw nir yi yd inf9, aB G a 3000 B, aB G yt 400 t]) [2, 1, 0] (by decide) rfl rfl ?_
        refine s_iret X Y dX6_string_91 (rfl) ?_
        refine ⟨(if e = 0 then at9 else n), nw, ns, t, ?_, rfl, ?_, ?_, ?_⟩
        · (first | (exfalso; omega) | (exact (nuA_n (by omega)).trans (sb_y e (by omega) hmm).1.symm))
        · (first | (exfalso; omega) | (intro h; rw [(sb_y (B := B) e (by omega) hmm).2]; exact lk_n (by omega) h))
        · (first | (exfalso; omega) | (intro h; exact absurd h (by split <;> decide)))
        · (first | (exfalso; omega) | (exact htb))
    refine s_iload_n X dX6_string_26 rfl 2 rfl ?_
    refine s_iconst X dX6_string_27 ?_
    refine s_icmp_ne X 35 dX6_string_28 (by decide) (by omega) (fun c28 => ?_) (fun c28 => ?_)
    · refine s_iload_n X dX6_string_35 rfl 3 rfl ?_
      refine s_if_eq X 58 dX6_string_36 (by decide) (by omega) (fun c36 => ?_) (fun c36 => ?_)
      · refine s_sipush 256 X dX6_string_58 (by decide) ?_
        refine s_iload_n X dX6_string_61 rfl 0 rfl ?_
        refine s_imul X dX6_string_62 ?_
        refine s_aload_n X dX6_string_63 rfl 1 rfl ?_
        refine s_aload_n X dX6_string_64 rfl 1 rfl ?_
        refine s_get X dX6_string_65 fl_X6_102 1 rfl rfl ?_
        refine s_iconst X dX6_string_68 ?_
        refine s_iadd X dX6_string_69 ?_
        refine s_callIV X lk_X6_63 [1, 2] [0] (wr := [aB G yt 400 t]) rfl rfl (by decide) (by decide) (by decide) (c_X6_byteAt (kl K) G o a po xt xi xd yt yi yd th n e dn at9 dp kd wh pl base sg row ror np nw nb ns nrw nir inf9 re nr B (at9 + 2) (by assumption) (by assumption) (by omega)) rfl rfl dX6_string_70 rfl rfl (Nat.le_of_ble_eq_true rfl) (by decide) (fun z10 w10 h10 => ?_)
        obtain ⟨rfl, rfl⟩ := h10
        show SW K G 5 0 0 73 [(3, .int (iI (bA B n (at9 + 1)))), (0, .ref o), (1, .int (iI w)), (2, .int (iI lf))] [.int (iI (bA B n (at9 + 2))), .int (iI (256 * (bA B n (at9 + 1))))] [aB G yt 400 t, oMo o th n a e dn at9 dp po kd wh re pl base sg xt row ror xi xd np nw nr nb ns yt nrw nir yi yd inf9, aB G a 3000 B]
        have q11 := bA_C n (at9 + 2) (by assumption : ∀ j, B j < 256)
        refine s_iadd X dX6_string_73 ?_
        exact j74 ((256 * (bA B n (at9 + 1))) + (bA B n (at9 + 2))) (by first | (have e9 : w = 1 := (by omega); rw [e9, sbM_1]; done) | (have e9 : w = 2 := (by omega); have e8 : lf = 0 := (by omega); rw [e9, e8, sbM_20]; done) | (have e9 : w = 2 := (by omega); have e8 : lf = 1 := (by omega); rw [e9, e8, sbM_21]; done))
      · refine s_iload_n X dX6_string_39 rfl 0 rfl ?_
        refine s_sipush 256 X dX6_string_40 (by decide) ?_
        refine s_aload_n X dX6_string_43 rfl 1 rfl ?_
        refine s_aload_n X dX6_string_44 rfl 1 rfl ?_
        refine s_get X dX6_string_45 fl_X6_102 1 rfl rfl ?_
        refine s_iconst X dX6_string_48 ?_
        refine s_iadd X dX6_string_49 ?_
        refine s_callIV X lk_X6_63 [1, 2] [0] (wr := [aB G yt 400 t]) rfl rfl (by decide) (by decide) (by decide) (c_X6_byteAt (kl K) G o a po xt xi xd yt yi yd th n e dn at9 dp kd wh pl base sg row ror np nw nb ns nrw nir inf9 re nr B (at9 + 2) (by assumption) (by assumption) (by omega)) rfl rfl dX6_string_50 rfl rfl (Nat.le_of_ble_eq_true rfl) (by decide) (fun z12 w12 h12 => ?_)
        obtain ⟨rfl, rfl⟩ := h12
        show SW K G 5 0 0 53 [(3, .int (iI (bA B n (at9 + 1)))), (0, .ref o), (1, .int (iI w)), (2, .int (iI lf))] [.int (iI (bA B n (at9 + 2))), .int (iI 256), .int (iI (bA B n (at9 + 1)))] [aB G yt 400 t, oMo o th n a e dn at9 dp po kd wh re pl base sg xt row ror xi xd np nw nr nb ns yt nrw nir yi yd inf9, aB G a 3000 B]
        have q13 := bA_C n (at9 + 2) (by assumption : ∀ j, B j < 256)
        refine s_imul X dX6_string_53 ?_
        refine s_iadd X dX6_string_54 ?_
        refine s_goto X 74 dX6_string_55 (by decide) ?_
        exact j74 ((bA B n (at9 + 1)) + (256 * (bA B n (at9 + 2)))) (by first | (have e9 : w = 1 := (by omega); rw [e9, sbM_1]; done) | (have e9 : w = 2 := (by omega); have e8 : lf = 0 := (by omega); rw [e9, e8, sbM_20]; done) | (have e9 : w = 2 := (by omega); have e8 : lf = 1 := (by omega); rw [e9, e8, sbM_21]; done))
    · refine s_iload_n X dX6_string_31 rfl 0 rfl ?_
      refine s_goto X 74 dX6_string_32 (by decide) ?_
      exact j74 (bA B n (at9 + 1)) (by first | (have e9 : w = 1 := (by omega); rw [e9, sbM_1]; done) | (have e9 : w = 2 := (by omega); have e8 : lf = 0 := (by omega); rw [e9, e8, sbM_20]; done) | (have e9 : w = 2 := (by omega); have e8 : lf = 1 := (by omega); rw [e9, e8, sbM_21]; done))
  · refine s_aload_n X dX6_string_10 rfl 0 rfl ?_
    refine s_callIV X lk_X6_132 [2] [0, 1] (wr := [aB G a 3000 B, aB G yt 400 t]) rfl rfl (by decide) (by decide) (by decide) (c_X6_lacking (kl K) G o a po xt xi xd yt yi yd th n e dn at9 dp kd wh pl base sg row ror np nw nb ns nrw nir inf9 re nr (by omega)) rfl rfl dX6_string_11 rfl rfl (Nat.le_of_ble_eq_true rfl) (by decide) (fun z14 w14 h14 => ?_)
    obtain ⟨rfl, rfl⟩ := h14
    show SW K G 5 0 0 14 [(0, .ref o), (1, .int (iI w)), (2, .int (iI lf))] [.int (iI (if e = 0 then 0 else -7))] [aB G a 3000 B, aB G yt 400 t, oMo o th n a e dn (if e = 0 then at9 else n) dp po kd wh re pl base sg xt row ror xi xd np nw nr nb ns yt nrw nir yi yd inf9]
    refine s_perm (ws' := [oMo o th n a e dn (if e = 0 then at9 else n) dp po kd wh re pl base sg xt row ror xi xd np nw nr nb ns yt nrw nir yi yd inf9, aB G a 3000 B, aB G yt 400 t]) [2, 0, 1] (by decide) rfl rfl ?_
    refine s_iret X Y dX6_string_14 (rfl) ?_
    refine ⟨(if e = 0 then at9 else n), nw, ns, t, ?_, rfl, ?_, ?_, ?_⟩
    · (first | (exfalso; omega) | (exact (sb_n e (by omega)).1.symm))
    · (first | (exfalso; omega) | (intro h; rw [(sb_n (B := B) (lf := lf) e (by omega : ¬ at9 + 1 + w ≤ n)).2]; exact lk_e h))
    · (first | (exfalso; omega) | (intro h; exact absurd h (by split <;> decide)))
    · (first | (exfalso; omega) | (exact htb))
set_option maxRecDepth 100000 in
set_option maxHeartbeats 4000000 in
theorem c_X6_one (l : Launch) (G : GX) (o : Nat) (a : Nat) (po : Nat) (xt : Nat) (xi : Nat) (xd : Nat) (yt : Nat) (yi : Nat) (yd : Nat) (th : Int) (n : Int) (e : Int) (dn : Int) (at9 : Int) (dp : Int) (kd : Int) (wh : Int) (pl : Int) (base : Int) (sg : Int) (row : Int) (ror : Int) (np : Int) (nw : Int) (nb : Int) (ns : Int) (nrw : Int) (nir : Int) (inf9 : Int) (re : UInt64) (nr : UInt64) (B : Nat → Nat) (kq : Int) (tr : Int) (hn : 0 ≤ n ∧ n ≤ 3000) (hBb : ∀ j, B j < 256) (he : e = 0 ∨ e = 1) (hap : 0 ≤ at9 ∧ at9 < n) (hnp : np = at9) (hkd : 1 ≤ kq ∧ kq ≤ 20) (htr : tr = 0 ∨ tr = 1) : CtI l G yX6_one cX6_one 3 (some .int) ({ frames := 1, cells := 0, slots := 0, locals := 21 } : Room) [.ref o, .int (iI kq), .int (iI tr)] [oMo o th n a e dn at9 dp po kd wh re pl base sg xt row ror xi xd np nw nr nb ns yt nrw nir yi yd inf9, aB G a 3000 B] (fun (z9 : Int) (w9 : va_W) => ∃ (at2 : Int), ∃ (np2 : Int), ∃ (nw2 : Int), z9 = (if tr = 1 ∧ 1 < (bA B n (at9 + 1)) then -5 else nuA n e (at9 + 1 + 1) kq) ∧ w9 = [oMo o th n a e dn at2 dp po kd wh re pl base sg xt row ror xi xd np2 nw2 nr nb ns yt nrw nir yi yd inf9, aB G a 3000 B] ∧ (z9 ≠ 0 → at2 = lkF n (at9 + 1 + 1) ∧ np2 = (if tr = 1 ∧ 1 < (bA B n (at9 + 1)) then at9 + 1 else at9)) ∧ (0 < z9 → nw2 = (bA B n (at9 + 1)))) := by
  intro sz
  refine met_of (fun wc sz => va_Qi (qI _) (posW G wc sz) (va_A wc sz)) (by decide) [(0, .ref o), (1, .int (iI kq)), (2, .int (iI tr))] rfl (Nat.le_of_ble_eq_true rfl) (fun K hK9 hnm X Y => ?_)
  subst hK9
  replace Y : RI K G (some .int) 0 0 _ := Y
  refine s_aload_n X dX6_one_0 rfl 0 rfl ?_
  refine s_iconst X dX6_one_1 ?_
  refine s_callIV X lk_X6_180 [0] [1] (wr := [aB G a 3000 B]) rfl rfl (by decide) (by decide) (by decide) (c_X6_came (kl K) G o a po xt xi xd yt yi yd th n e dn at9 dp kd wh pl base sg row ror np nw nb ns nrw nir inf9 re nr 2 (by omega)) rfl rfl dX6_one_2 rfl rfl (Nat.le_of_ble_eq_true rfl) (by decide) (fun z1 w1 h1 => ?_)
  obtain ⟨rfl, rfl⟩ := h1
  show SW K G 3 0 0 5 [(0, .ref o), (1, .int (iI kq)), (2, .int (iI tr))] [.int (iI (tf (np + 2 ≤ n)))] [aB G a 3000 B, oMo o th n a e dn at9 dp po kd wh re pl base sg xt row ror xi xd np nw nr nb ns yt nrw nir yi yd inf9]
  refine s_tf_ne X 13 dX6_one_5 (by decide) (fun c5 => ?_) (fun c5 => ?_)
  · refine s_aload_n X dX6_one_13 rfl 0 rfl ?_
    refine s_aload_n X dX6_one_14 rfl 0 rfl ?_
    refine s_aload_n X dX6_one_15 rfl 0 rfl ?_
    refine s_get X dX6_one_16 fl_X6_102 1 rfl rfl ?_
    refine s_iconst X dX6_one_19 ?_
    refine s_iadd X dX6_one_20 ?_
    refine s_callIV X lk_X6_63 [1, 0] [] (wr := []) rfl rfl (by decide) (by decide) (by decide) (c_X6_byteAt (kl K) G o a po xt xi xd yt yi yd th n e dn at9 dp kd wh pl base sg row ror np nw nb ns nrw nir inf9 re nr B (at9 + 1) (by assumption) (by assumption) (by omega)) rfl rfl dX6_one_21 rfl rfl (Nat.le_of_ble_eq_true rfl) (by decide) (fun z2 w2 h2 => ?_)
    obtain ⟨rfl, rfl⟩ := h2
    show SW K G 3 0 0 24 [(0, .ref o), (1, .int (iI kq)), (2, .int (iI tr))] [.int (iI (bA B n (at9 + 1))), .ref o] [oMo o th n a e dn at9 dp po kd wh re pl base sg xt row ror xi xd np nw nr nb ns yt nrw nir yi yd inf9, aB G a 3000 B]
    have q3 := bA_C n (at9 + 1) (by assumption : ∀ j, B j < 256)
    refine s_i2l X dX6_one_24 (by omega) ?_
    refine s_put X dX6_one_25 fl_X6_77 tyX6_ok nmX6 0 rfl rfl (rfl) (rfl) (Nat.le_of_ble_eq_true rfl) [oMo o th n a e dn at9 dp po kd wh re pl base sg xt row ror xi xd np (bA B n (at9 + 1)) nr nb ns yt nrw nir yi yd inf9, aB G a 3000 B] rfl ?_
    refine s_iload_n X dX6_one_28 rfl 2 rfl ?_
    refine s_if_eq X 57 dX6_one_29 (by decide) (by omega) (fun c29 => ?_) (fun c29 => ?_)
    · refine s_aload_n X dX6_one_57 rfl 0 rfl ?_
      refine s_aload_n X dX6_one_58 rfl 0 rfl ?_
      refine s_get X dX6_one_59 fl_X6_102 0 rfl rfl ?_
      refine s_iconst X dX6_one_62 ?_
      refine s_iadd X dX6_one_63 ?_
      refine s_put X dX6_one_64 fl_X6_102 tyX6_ok nmX6 0 rfl rfl (rfl) (rfl) (Nat.le_of_ble_eq_true rfl) [oMo o th n a e dn (at9 + 2) dp po kd wh re pl base sg xt row ror xi xd np (bA B n (at9 + 1)) nr nb ns yt nrw nir yi yd inf9, aB G a 3000 B] rfl ?_
      refine s_iload_n X dX6_one_67 rfl 1 rfl ?_
      refine s_iret X Y dX6_one_68 (rfl) ?_
      refine ⟨(at9 + 2), np, (bA B n (at9 + 1)), ?_, rfl, ?_, ?_⟩
      · (first | (exfalso; omega) | (exact (nuA_y (by omega)).trans (if_neg (by omega)).symm))
      · (first | (exfalso; omega) | (intro _; exact ⟨(show at9 + 2 = at9 + 1 + 1 by omega).trans (lk_y (by omega)), hnp.trans (if_neg (by omega)).symm⟩))
      · (first | (exfalso; omega) | (intro _; rfl))
    · refine s_aload_n X dX6_one_32 rfl 0 rfl ?_
      refine s_get X dX6_one_33 fl_X6_77 0 rfl rfl ?_
      refine s_lconst1 X dX6_one_36 ?_
      refine s_lif_le X 57 dX6_one_37 dX6_one_38 (by decide) (by omega) (fun c37 => ?_) (fun c37 => ?_)
      · refine s_aload_n X dX6_one_57 rfl 0 rfl ?_
        refine s_aload_n X dX6_one_58 rfl 0 rfl ?_
        refine s_get X dX6_one_59 fl_X6_102 0 rfl rfl ?_
        refine s_iconst X dX6_one_62 ?_
        refine s_iadd X dX6_one_63 ?_
        refine s_put X dX6_one_64 fl_X6_102 tyX6_ok nmX6 0 rfl rfl (rfl) (rfl) (Nat.le_of_ble_eq_true rfl) [oMo o th n a e dn (at9 + 2) dp po kd wh re pl base sg xt row ror xi xd np (bA B n (at9 + 1)) nr nb ns yt nrw nir yi yd inf9, aB G a 3000 B] rfl ?_
        refine s_iload_n X dX6_one_67 rfl 1 rfl ?_
        refine s_iret X Y dX6_one_68 (rfl) ?_
        refine ⟨(at9 + 2), np, (bA B n (at9 + 1)), ?_, rfl, ?_, ?_⟩
        · (first | (exfalso; omega) | (exact (nuA_y (by omega)).trans (if_neg (by omega)).symm))
        · (first | (exfalso; omega) | (intro _; exact ⟨(show at9 + 2 = at9 + 1 + 1 by omega).trans (lk_y (by omega)), hnp.trans (if_neg (by omega)).symm⟩))
        · (first | (exfalso; omega) | (intro _; rfl))
      · refine s_aload_n X dX6_one_41 rfl 0 rfl ?_
        refine s_dup X dX6_one_42 rfl ?_
        refine s_get X dX6_one_43 fl_X6_102 0 rfl rfl ?_
        refine s_iconst X dX6_one_46 ?_
        refine s_iadd X dX6_one_47 ?_
        refine s_put X dX6_one_48 fl_X6_102 tyX6_ok nmX6 0 rfl rfl (rfl) (rfl) (Nat.le_of_ble_eq_true rfl) [oMo o th n a e dn (at9 + 1) dp po kd wh re pl base sg xt row ror xi xd np (bA B n (at9 + 1)) nr nb ns yt nrw nir yi yd inf9, aB G a 3000 B] rfl ?_
        refine s_aload_n X dX6_one_51 rfl 0 rfl ?_
        refine s_iconst X dX6_one_52 ?_
        refine s_callIV X lk_X6_138 [0] [1] (wr := [aB G a 3000 B]) rfl rfl (by decide) (by decide) (by decide) (c_X6_wrongByte (kl K) G o a po xt xi xd yt yi yd th n e dn (at9 + 1) dp kd wh pl base sg row ror np (bA B n (at9 + 1)) nb ns nrw nir inf9 re nr 4) rfl rfl dX6_one_53 rfl rfl (Nat.le_of_ble_eq_true rfl) (by decide) (fun z4 w4 h4 => ?_)
        obtain ⟨rfl, rfl⟩ := h4
        show SW K G 3 0 0 56 [(0, .ref o), (1, .int (iI kq)), (2, .int (iI tr))] [.int (iI (-1 - 4))] [aB G a 3000 B, oMo o th n a e dn ((at9 + 1) + 1) dp po kd wh re pl base sg xt row ror xi xd (at9 + 1) (bA B n (at9 + 1)) nr nb ns yt nrw nir yi yd inf9]
        refine s_perm (ws' := [oMo o th n a e dn ((at9 + 1) + 1) dp po kd wh re pl base sg xt row ror xi xd (at9 + 1) (bA B n (at9 + 1)) nr nb ns yt nrw nir yi yd inf9, aB G a 3000 B]) [1, 0] (by decide) rfl rfl ?_
        refine s_iret X Y dX6_one_56 (rfl) ?_
        refine ⟨((at9 + 1) + 1), (at9 + 1), (bA B n (at9 + 1)), ?_, rfl, ?_, ?_⟩
        · (first | (exfalso; omega) | (exact (if_pos (by omega)).symm))
        · (first | (exfalso; omega) | (intro _; exact ⟨lk_y (by omega), (if_pos (by omega)).symm⟩))
        · (first | (exfalso; omega) | (intro h; exact absurd h (by decide)))
  · refine s_aload_n X dX6_one_8 rfl 0 rfl ?_
    refine s_callIV X lk_X6_132 [1] [0] (wr := [aB G a 3000 B]) rfl rfl (by decide) (by decide) (by decide) (c_X6_lacking (kl K) G o a po xt xi xd yt yi yd th n e dn at9 dp kd wh pl base sg row ror np nw nb ns nrw nir inf9 re nr (by omega)) rfl rfl dX6_one_9 rfl rfl (Nat.le_of_ble_eq_true rfl) (by decide) (fun z5 w5 h5 => ?_)
    obtain ⟨rfl, rfl⟩ := h5
    show SW K G 3 0 0 12 [(0, .ref o), (1, .int (iI kq)), (2, .int (iI tr))] [.int (iI (if e = 0 then 0 else -7))] [aB G a 3000 B, oMo o th n a e dn (if e = 0 then at9 else n) dp po kd wh re pl base sg xt row ror xi xd np nw nr nb ns yt nrw nir yi yd inf9]
    refine s_perm (ws' := [oMo o th n a e dn (if e = 0 then at9 else n) dp po kd wh re pl base sg xt row ror xi xd np nw nr nb ns yt nrw nir yi yd inf9, aB G a 3000 B]) [1, 0] (by decide) rfl rfl ?_
    refine s_iret X Y dX6_one_12 (rfl) ?_
    refine ⟨(if e = 0 then at9 else n), np, nw, ?_, rfl, ?_, ?_⟩
    · (first | (exfalso; omega) | (exact (nuA_n (by omega)).trans (if_neg (fun q => by have h9 := bA_out (B := B) (n := n) (i := at9 + 1) (by omega); omega)).symm))
    · (first | (exfalso; omega) | (intro h; have h9 := bA_out (B := B) (n := n) (i := at9 + 1) (by omega); exact ⟨lk_n (by omega) h, hnp.trans (if_neg (fun q => by omega)).symm⟩))
    · (first | (exfalso; omega) | (intro h; exfalso; revert h; split <;> decide))
