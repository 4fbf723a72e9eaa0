set_option maxRecDepth 100000 in
set_option maxHeartbeats 4000000 in
theorem c_X5_nothingFollows (l : Launch) (G : GX) (o : Nat) (b : Nat) (w : Nat) (s2 : Nat) (i2 : Nat) (p9 : Nat) (lt : Nat) (br : Int) (lp : Int) (k : Nat) (a : Nat) (n : Int) (rd : Int) (e : Int) (bp : Nat → Int) (he : e = 0 ∨ e = 1) (hbr : 0 ≤ br ∧ br ≤ 20) : CtI l G yX5_nothingFollows cX5_nothingFollows 1 (some .int) ({ frames := 0, cells := 0, slots := 0, locals := 0 } : Room) [.ref o] [oTR o b w s2 i2 p9 br lt k lp, oBy b a n rd e, aI G p9 20 bp] (fun (z9 : Int) (w9 : va_W) => ∃ (br2 : Int), ∃ (lp2 : Int), z9 = (if e = 0 then 0 else if br ≤ 0 then 20 else -7) ∧ w9 = [oTR o b w s2 i2 p9 br2 lt k lp2, oBy b a n rd e, aI G p9 20 bp] ∧ (br2 = (if ¬ e = 0 ∧ 0 < br then 0 else br)) ∧ (lp2 = (if ¬ e = 0 ∧ 0 < br then bp (br - 1).toNat else lp))) := by
  intro sz
  refine met_of (fun wc sz => va_Qi (qI _) (posW G wc sz) (va_A wc sz)) (by decide) [(0, .ref o)] rfl (Nat.le_of_ble_eq_true rfl) (fun K hK9 hnm X Y => ?_)
  subst hK9
  replace Y : RI K G (some .int) 0 0 _ := Y
  refine s_aload_n X dX5_nothingFollows_0 rfl 0 rfl ?_
  refine s_get X dX5_nothingFollows_1 fl_X5_10 0 rfl rfl ?_
  refine s_get X dX5_nothingFollows_4 fl_X5_53 1 rfl rfl ?_
  refine s_if_ne X 12 dX5_nothingFollows_7 (by decide) (by omega) (fun c7 => ?_) (fun c7 => ?_)
  · refine s_aload_n X dX5_nothingFollows_12 rfl 0 rfl ?_
    refine s_get X dX5_nothingFollows_13 fl_X5_143 0 rfl rfl ?_
    refine s_if_gt X 22 dX5_nothingFollows_16 (by decide) (by omega) (fun c16 => ?_) (fun c16 => ?_)
    · refine s_aload_n X dX5_nothingFollows_22 rfl 0 rfl ?_
      refine s_aload_n X dX5_nothingFollows_23 rfl 0 rfl ?_
      refine s_get X dX5_nothingFollows_24 fl_X5_39 0 rfl rfl ?_
      refine s_aload_n X dX5_nothingFollows_27 rfl 0 rfl ?_
      refine s_get X dX5_nothingFollows_28 fl_X5_143 0 rfl rfl ?_
      refine s_iconst X dX5_nothingFollows_31 ?_
      refine s_isub X dX5_nothingFollows_32 ?_
      refine s_iald X dX5_nothingFollows_33 2 rfl (by omega) ?_
      refine s_put X dX5_nothingFollows_34 fl_X5_104 tyX5_ok nmX5 0 rfl rfl (rfl) (rfl) (Nat.le_of_ble_eq_true rfl) [oTR o b w s2 i2 p9 br lt k (bp (br - 1).toNat), oBy b a n rd e, aI G p9 20 bp] rfl ?_
      refine s_aload_n X dX5_nothingFollows_37 rfl 0 rfl ?_
      refine s_iconst X dX5_nothingFollows_38 ?_
      refine s_put X dX5_nothingFollows_39 fl_X5_143 tyX5_ok nmX5 0 rfl rfl (rfl) (rfl) (Nat.le_of_ble_eq_true rfl) [oTR o b w s2 i2 p9 0 lt k (bp (br - 1).toNat), oBy b a n rd e, aI G p9 20 bp] rfl ?_
      refine s_bipush (-7) X dX5_nothingFollows_42 (by decide) ?_
      refine s_iret X Y dX5_nothingFollows_44 (rfl) ?_
      refine ⟨0, (bp (br - 1).toNat), ?_, rfl, ?_, ?_⟩
      · (first | (exfalso; omega) | (rw [if_neg (by assumption), if_neg (by omega)]))
      · (first | (exfalso; omega) | (rw [if_pos (by omega)]))
      · (first | (exfalso; omega) | (rw [if_pos (by omega)]))
    · refine s_bipush 20 X dX5_nothingFollows_19 (by decide) ?_
      refine s_iret X Y dX5_nothingFollows_21 (rfl) ?_
      refine ⟨br, lp, ?_, rfl, ?_, ?_⟩
      · (first | (exfalso; omega) | (rw [if_neg (by assumption), if_pos (by omega)]))
      · (first | (exfalso; omega) | (rw [if_neg (by omega)]))
      · (first | (exfalso; omega) | (rw [if_neg (by omega)]))
  · refine s_iconst X dX5_nothingFollows_10 ?_
    refine s_iret X Y dX5_nothingFollows_11 (rfl) ?_
    refine ⟨br, lp, ?_, rfl, ?_, ?_⟩
    · (first | (exfalso; omega) | (rw [if_pos (by assumption)]))
    · (first | (exfalso; omega) | (rw [if_neg (by omega)]))
    · (first | (exfalso; omega) | (rw [if_neg (by omega)]))
set_option maxRecDepth 100000 in
set_option maxHeartbeats 4000000 in
theorem c_X5_keepDraft (l : Launch) (G : GX) (o : Nat) (b : Nat) (w : Nat) (s2 : Nat) (i2 : Nat) (p9 : Nat) (lt : Nat) (br : Int) (lp : Int) (k : Nat)  : CtV l G yX5_keepDraft cX5_keepDraft 2 none ({ frames := 0, cells := 0, slots := 0, locals := 0 } : Room) [.ref o] [oTR o b w s2 i2 p9 br lt k lp] (fun (w9 : va_W) => w9 = [oTR o b w s2 i2 p9 br k lt lp]) := by
  intro sz
  refine met_of (fun wc sz => va_Qv _ (posW G wc sz) (va_A wc sz)) (by decide) [(0, .ref o)] rfl (Nat.le_of_ble_eq_true rfl) (fun K hK9 hnm X Y => ?_)
  subst hK9
  replace Y : RV K G none 0 0 _ := Y
  refine s_aload_n X dX5_keepDraft_0 rfl 0 rfl ?_
  refine s_get X dX5_keepDraft_1 fl_X5_46 0 rfl rfl ?_
  refine s_astore_n X dX5_keepDraft_4 rfl [(1, .ref lt), (0, .ref o)] (by decide) rfl ?_
  refine s_aload_n X dX5_keepDraft_5 rfl 1 rfl ?_
  refine s_aload_n X dX5_keepDraft_6 rfl 1 rfl ?_
  refine s_get X dX5_keepDraft_7 fl_X5_50 0 rfl rfl ?_
  refine s_put X dX5_keepDraft_10 fl_X5_46 tyX5_ok nmX5 0 rfl rfl (rfl) (rfl) (Nat.le_of_ble_eq_true rfl) [oTR o b w s2 i2 p9 br k k lp] rfl ?_
  refine s_aload_n X dX5_keepDraft_13 rfl 1 rfl ?_
  refine s_aload_n X dX5_keepDraft_14 rfl 0 rfl ?_
  refine s_put X dX5_keepDraft_15 fl_X5_50 tyX5_ok nmX5 0 rfl rfl (rfl) (rfl) (Nat.le_of_ble_eq_true rfl) [oTR o b w s2 i2 p9 br k lt lp] rfl ?_
  refine s_vret X Y dX5_keepDraft_18 ?_
  exact rfl
set_option maxRecDepth 100000 in
set_option maxHeartbeats 4000000 in
theorem c_X5_next_p (l : Launch) (G : GX) (o : Nat) (b : Nat) (w : Nat) (s2 : Nat) (i2 : Nat) (p9 : Nat) (lt : Nat) (br : Int) (lp : Int) (a : Nat) (n : Int) (rd : Int) (e : Int) (B : Nat → Nat) (base : Int) (bp : Nat → Int) (k : Nat) (x : Nat) (i8 : Nat) (d8 : Nat) (pl : Int) (af : Int) (wh : Int) (len : Int) (ror : Int) (rl : Int) (re : UInt64) (t : Nat → Nat) (rn : Nat → Int) (rr : Nat → UInt64) (lx : Nat) (li8 : Nat) (ld8 : Nat) (lpl : Int) (laf : Int) (lwh : Int) (llen : Int) (lror : Int) (lrl : Int) (lre : UInt64) (lt9 : Nat → Nat) (lrn : Nat → Int) (lrr : Nat → UInt64) (hn : 0 ≤ n ∧ n ≤ 3000) (hBb : ∀ j, B j < 256) (he : e = 0 ∨ e = 1) (htb : ∀ j, t j < 256) (hrd : 0 ≤ rd ∧ rd ≤ n) (hbr : 0 ≤ br ∧ br ≤ 20) (hr0 : ror = 0 ∨ ror = 1) (hst : ¬ (nxS B n rd) = n) (hpos : 0 < nxK B n e rd br) : CtI l G yX5_next cX5_next 3 (some .int) ({ frames := 7, cells := 0, slots := 0, locals := 163 } : Room) [.ref o] [oTR o b w s2 i2 p9 br lt k lp, oBy b a n rd e, aB G a 3000 B, oWd w b base, oSt s2 b, oBi i2 b, aI G p9 20 bp, oTk k pl af wh re x len i8 d8 ror rl, aB G x 401 t, aI G i8 60 rn, aF G d8 60 rr, oTk lt lpl laf lwh lre lx llen li8 ld8 lror lrl, aB G lx 401 lt9, aI G li8 60 lrn, aF G ld8 60 lrr] (fun (z9 : Int) (w9 : va_W) => ∃ (br2 : Int), ∃ (base2 : Int), ∃ (rd2 : Int), ∃ (lp2 : Int), ∃ (bp2 : Nat → Int), ∃ (pl2 : Int), ∃ (af2 : Int), ∃ (wh2 : Int), ∃ (len2 : Int), ∃ (ror2 : Int), ∃ (rl2 : Int), ∃ (re2 : UInt64), ∃ (t2 : Nat → Nat), ∃ (rn2 : Nat → Int), ∃ (rr2 : Nat → UInt64), z9 = (nxK B n e rd br) ∧ w9 = [oTR o b w s2 i2 p9 br2 k lt lp2, oBy b a n rd2 e, aB G a 3000 B, oWd w b base2, oSt s2 b, oBi i2 b, aI G p9 20 bp2, oTk k pl2 af2 wh2 re2 x len2 i8 d8 ror2 rl2, aB G x 401 t2, aI G i8 60 rn2, aF G d8 60 rr2, oTk lt lpl laf lwh lre lx llen li8 ld8 lror lrl, aB G lx 401 lt9, aI G li8 60 lrn, aF G ld8 60 lrr] ∧ (rd2 = rtF B n (nxS B n rd) (bA B n (nxS B n rd))) ∧ (lp2 = rtP B n (nxS B n rd) (bA B n (nxS B n rd))) ∧ (wh2 = rtW B n e (nxS B n rd) (bA B n (nxS B n rd)) ∧ re2 = rtR B n e (nxS B n rd) (bA B n (nxS B n rd)) ∧ TX t2 len2 (rtO B n e (nxS B n rd) (bA B n (nxS B n rd))) ∧ rl2 = rtL B n (nxS B n rd) (bA B n (nxS B n rd)) ∧ (0 ≤ rl2 ∧ rl2 ≤ 60) ∧ (∀ j : Int, 0 ≤ j → j < rl2 → rn2 j.toNat = rowN B n ((nxS B n rd) + 4) (bA B n ((nxS B n rd) + 1)) j ∧ rr2 j.toNat = rowD B n ((nxS B n rd) + 4) (bA B n ((nxS B n rd) + 1)) j) ∧ (0 < rl2 → ror2 = tf (rwR (bA B n ((nxS B n rd) + 1))))) ∧ (base2 = rtB B n e (nxS B n rd) (bA B n (nxS B n rd)) base) ∧ (br2 = (if z9 = 9 then br + 1 else if z9 = 10 then br - 1 else br)) ∧ (bp2 = (if z9 = 9 then uI bp br.toNat (nxS B n rd) else bp)) ∧ (∀ j, t2 j < 256) ∧ (ror2 = 0 ∨ ror2 = 1)) := by
  intro sz
  refine met_of (fun wc sz => va_Qi (qI _) (posW G wc sz) (va_A wc sz)) (by decide) [(0, .ref o)] rfl (Nat.le_of_ble_eq_true rfl) (fun K hK9 hnm X Y => ?_)
  subst hK9
  replace Y : RI K G (some .int) 0 0 _ := Y
  have hS9 : nxS B n rd = fw B n rd 0 := rfl
  refine s_aload_n X dX5_next_0 rfl 0 rfl ?_
  refine s_get X dX5_next_1 fl_X5_10 0 rfl rfl ?_
  refine s_callIV X lk_X5_80 [1, 2] [0, 3, 4, 5, 6, 7, 8, 9, 10, 11, 12, 13, 14] (wr := [oTR o b w s2 i2 p9 br lt k lp, oWd w b base, oSt s2 b, oBi i2 b, aI G p9 20 bp, oTk k pl af wh re x len i8 d8 ror rl, aB G x 401 t, aI G i8 60 rn, aF G d8 60 rr, oTk lt lpl laf lwh lre lx llen li8 ld8 lror lrl, aB G lx 401 lt9, aI G li8 60 lrn, aF G ld8 60 lrr]) rfl rfl (by decide) (by decide) (by decide) (c_X1_firstNotWhite (kl K) G b a n rd e B (by assumption) (by assumption) (by omega)) rfl rfl dX5_next_4 rfl rfl (Nat.le_of_ble_eq_true rfl) (by decide) (fun z1 w1 h1 => ?_)
  obtain ⟨rfl, rfl⟩ := h1
  show SW K G 3 0 0 7 [(0, .ref o)] [.int (iI (fw B n rd 0))] [oTR o b w s2 i2 p9 br lt k lp, oWd w b base, oSt s2 b, oBi i2 b, aI G p9 20 bp, oTk k pl af wh re x len i8 d8 ror rl, aB G x 401 t, aI G i8 60 rn, aF G d8 60 rr, oTk lt lpl laf lwh lre lx llen li8 ld8 lror lrl, aB G lx 401 lt9, aI G li8 60 lrn, aF G ld8 60 lrr, oBy b a n rd e, aB G a 3000 B]
  have q2 := fw_R (B := B) (n := n) _ rd 0 rfl (by omega)
  have hSR : rd ≤ nxS B n rd ∧ nxS B n rd ≤ n := by rw [hS9]; assumption
  refine s_cast (st' := [.int (iI (nxS B n rd))]) (by rfl) rfl rfl ?_
  refine s_istore_n X dX5_next_7 rfl [(1, .int (iI (nxS B n rd))), (0, .ref o)] (by decide) rfl ?_
  refine s_iload_n X dX5_next_8 rfl 0 rfl ?_
  refine s_aload_n X dX5_next_9 rfl 1 rfl ?_
  refine s_get X dX5_next_10 fl_X5_10 0 rfl rfl ?_
  refine s_get X dX5_next_13 fl_X5_73 13 rfl rfl ?_
  refine s_icmp_ne X 24 dX5_next_16 (by decide) (by omega) (fun c16 => ?_) (fun c16 => ?_)
  · refine s_aload_n X dX5_next_24 rfl 1 rfl ?_
    refine s_get X dX5_next_25 fl_X5_50 0 rfl rfl ?_
    refine s_iload_n X dX5_next_28 rfl 0 rfl ?_
    refine s_callVV X lk_X5_87 [5] [0, 1, 2, 3, 4, 6, 7, 8, 9, 10, 11, 12, 13, 14] (wr := [oTR o b w s2 i2 p9 br lt k lp, oWd w b base, oSt s2 b, oBi i2 b, aI G p9 20 bp, aB G x 401 t, aI G i8 60 rn, aF G d8 60 rr, oTk lt lpl laf lwh lre lx llen li8 ld8 lror lrl, aB G lx 401 lt9, aI G li8 60 lrn, aF G ld8 60 lrr, oBy b a n rd e, aB G a 3000 B]) rfl rfl (by decide) (by decide) (by decide) (c_X3_startAt (kl K) G k x i8 d8 pl af wh len ror rl re (nxS B n rd)) rfl rfl dX5_next_29 rfl rfl (Nat.le_of_ble_eq_true rfl) (by decide) (fun w3 h3 => ?_)
    obtain rfl := h3
    show SW K G 3 0 0 32 [(1, .int (iI (nxS B n rd))), (0, .ref o)] [] [oTR o b w s2 i2 p9 br lt k lp, oWd w b base, oSt s2 b, oBi i2 b, aI G p9 20 bp, aB G x 401 t, aI G i8 60 rn, aF G d8 60 rr, oTk lt lpl laf lwh lre lx llen li8 ld8 lror lrl, aB G lx 401 lt9, aI G li8 60 lrn, aF G ld8 60 lrr, oBy b a n rd e, aB G a 3000 B, oTk k (nxS B n rd) ((nxS B n rd) + 1) 0 FP.dconst0 x 0 i8 d8 ror 0]
    refine s_aload_n X dX5_next_32 rfl 1 rfl ?_
    refine s_aload_n X dX5_next_33 rfl 1 rfl ?_
    refine s_get X dX5_next_34 fl_X5_10 0 rfl rfl ?_
    refine s_iload_n X dX5_next_37 rfl 0 rfl ?_
    refine s_callIV X lk_X5_91 [12, 13] [0, 1, 2, 3, 4, 5, 6, 7, 8, 9, 10, 11, 14] (wr := [oTR o b w s2 i2 p9 br lt k lp, oWd w b base, oSt s2 b, oBi i2 b, aI G p9 20 bp, aB G x 401 t, aI G i8 60 rn, aF G d8 60 rr, oTk lt lpl laf lwh lre lx llen li8 ld8 lror lrl, aB G lx 401 lt9, aI G li8 60 lrn, aF G ld8 60 lrr, oTk k (nxS B n rd) ((nxS B n rd) + 1) 0 FP.dconst0 x 0 i8 d8 ror 0]) rfl rfl (by decide) (by decide) (by decide) (c_X1_at (kl K) G b a n rd e B (nxS B n rd) (by assumption) (by assumption) (by omega)) rfl rfl dX5_next_38 rfl rfl (Nat.le_of_ble_eq_true rfl) (by decide) (fun z4 w4 h4 => ?_)
    obtain ⟨rfl, rfl⟩ := h4
    show SW K G 3 0 0 41 [(1, .int (iI (nxS B n rd))), (0, .ref o)] [.int (iI (bA B n (nxS B n rd))), .ref o] [oTR o b w s2 i2 p9 br lt k lp, oWd w b base, oSt s2 b, oBi i2 b, aI G p9 20 bp, aB G x 401 t, aI G i8 60 rn, aF G d8 60 rr, oTk lt lpl laf lwh lre lx llen li8 ld8 lror lrl, aB G lx 401 lt9, aI G li8 60 lrn, aF G ld8 60 lrr, oTk k (nxS B n rd) ((nxS B n rd) + 1) 0 FP.dconst0 x 0 i8 d8 ror 0, oBy b a n rd e, aB G a 3000 B]
    have q5 := bA_C n (nxS B n rd) (by assumption : ∀ j, B j < 256)
    refine s_callIV X lk_X5_95 [0, 13, 14, 1, 2, 3, 4, 12, 5, 6, 7] [8, 9, 10, 11] (wr := [oTk lt lpl laf lwh lre lx llen li8 ld8 lror lrl, aB G lx 401 lt9, aI G li8 60 lrn, aF G ld8 60 lrr]) rfl rfl (by decide) (by decide) (by decide) (c_X5_readToken (kl K) G o b w s2 i2 p9 lt br lp a n rd e B base bp k x i8 d8 (nxS B n rd) ((nxS B n rd) + 1) 0 0 ror 0 FP.dconst0 t rn rr (bA B n (nxS B n rd)) (by assumption) (by assumption) (by omega) (by assumption) (by omega) (by first | rfl | assumption) (by first | rfl | assumption) (by first | rfl | assumption) (by first | rfl | assumption) (by first | rfl | assumption) (by omega) (by omega) (rfl)) rfl rfl dX5_next_41 rfl rfl (Nat.le_of_ble_eq_true rfl) (by decide) (fun z6 w6 h6 => ?_)
    obtain ⟨br26, base26, bp26, pl26, af26, wh26, len26, ror26, rl26, re26, t26, rn26, rr26, rfl, f6_0, f6_1, f6_2, f6_3, f6_4, f6_5, f6_6, f6_7⟩ := h6
    show SW K G 3 0 0 44 [(1, .int (iI (nxS B n rd))), (0, .ref o)] [.int (iI z6)] [oTk lt lpl laf lwh lre lx llen li8 ld8 lror lrl, aB G lx 401 lt9, aI G li8 60 lrn, aF G ld8 60 lrr, oTR o b w s2 i2 p9 br26 lt k lp, oBy b a n rd e, aB G a 3000 B, oWd w b base26, oSt s2 b, oBi i2 b, aI G p9 20 bp26, oTk k pl26 af26 wh26 re26 x len26 i8 d8 ror26 rl26, aB G x 401 t26, aI G i8 60 rn26, aF G d8 60 rr26]
    have g0 := f6_0
    have g1 := f6_1
    have g2 := f6_2
    have g3 := f6_3
    have g4 := f6_4
    have g5 := f6_5
    have g6 := f6_6
    have g7 := f6_7
    have hk9 : nxK B n e rd br = z6 := g0.symm
    have hk8 := nxK_R B n e rd br
    refine s_istore_n X dX5_next_44 rfl [(2, .int (iI z6)), (1, .int (iI (nxS B n rd))), (0, .ref o)] (by decide) rfl ?_
    refine s_iload_n X dX5_next_45 rfl 0 rfl ?_
    refine s_if_ne X 51 dX5_next_46 (by decide) (by omega) (fun c46 => ?_) (fun c46 => ?_)
    · refine s_aload_n X dX5_next_51 rfl 2 rfl ?_
      refine s_get X dX5_next_52 fl_X5_10 4 rfl rfl ?_
      refine s_aload_n X dX5_next_55 rfl 2 rfl ?_
      refine s_get X dX5_next_56 fl_X5_50 4 rfl rfl ?_
      refine s_get X dX5_next_59 fl_X5_98 11 rfl rfl ?_
      refine s_put X dX5_next_62 fl_X5_77 tyX1_ok nmX1 5 rfl rfl (rfl) (rfl) (Nat.le_of_ble_eq_true rfl) [oTk lt lpl laf lwh lre lx llen li8 ld8 lror lrl, aB G lx 401 lt9, aI G li8 60 lrn, aF G ld8 60 lrr, oTR o b w s2 i2 p9 br26 lt k lp, oBy b a n af26 e, aB G a 3000 B, oWd w b base26, oSt s2 b, oBi i2 b, aI G p9 20 bp26, oTk k pl26 af26 wh26 re26 x len26 i8 d8 ror26 rl26, aB G x 401 t26, aI G i8 60 rn26, aF G d8 60 rr26] rfl ?_
      refine s_aload_n X dX5_next_65 rfl 2 rfl ?_
      refine s_aload_n X dX5_next_66 rfl 2 rfl ?_
      refine s_get X dX5_next_67 fl_X5_50 4 rfl rfl ?_
      refine s_get X dX5_next_70 fl_X5_101 11 rfl rfl ?_
      refine s_put X dX5_next_73 fl_X5_104 tyX5_ok nmX5 4 rfl rfl (rfl) (rfl) (Nat.le_of_ble_eq_true rfl) [oTk lt lpl laf lwh lre lx llen li8 ld8 lror lrl, aB G lx 401 lt9, aI G li8 60 lrn, aF G ld8 60 lrr, oTR o b w s2 i2 p9 br26 lt k pl26, oBy b a n af26 e, aB G a 3000 B, oWd w b base26, oSt s2 b, oBi i2 b, aI G p9 20 bp26, oTk k pl26 af26 wh26 re26 x len26 i8 d8 ror26 rl26, aB G x 401 t26, aI G i8 60 rn26, aF G d8 60 rr26] rfl ?_
      refine s_iload_n X dX5_next_76 rfl 0 rfl ?_
      refine s_if_le X 84 dX5_next_77 (by decide) (by omega) (fun c77 => ?_) (fun c77 => ?_)
      · exfalso; omega
      · refine s_aload_n X dX5_next_80 rfl 2 rfl ?_
        refine s_callVV X lk_X5_107 [4] [0, 1, 2, 3, 5, 6, 7, 8, 9, 10, 11, 12, 13, 14] (wr := [oTk lt lpl laf lwh lre lx llen li8 ld8 lror lrl, aB G lx 401 lt9, aI G li8 60 lrn, aF G ld8 60 lrr, oBy b a n af26 e, aB G a 3000 B, oWd w b base26, oSt s2 b, oBi i2 b, aI G p9 20 bp26, oTk k pl26 af26 wh26 re26 x len26 i8 d8 ror26 rl26, aB G x 401 t26, aI G i8 60 rn26, aF G d8 60 rr26]) rfl rfl (by decide) (by decide) (by decide) (c_X5_keepDraft (kl K) G o b w s2 i2 p9 lt br26 pl26 k) rfl rfl dX5_next_81 rfl rfl (Nat.le_of_ble_eq_true rfl) (by decide) (fun w7 h7 => ?_)
        obtain rfl := h7
        show SW K G 3 0 0 84 [(2, .int (iI z6)), (1, .int (iI (nxS B n rd))), (0, .ref o)] [] [oTk lt lpl laf lwh lre lx llen li8 ld8 lror lrl, aB G lx 401 lt9, aI G li8 60 lrn, aF G ld8 60 lrr, oBy b a n af26 e, aB G a 3000 B, oWd w b base26, oSt s2 b, oBi i2 b, aI G p9 20 bp26, oTk k pl26 af26 wh26 re26 x len26 i8 d8 ror26 rl26, aB G x 401 t26, aI G i8 60 rn26, aF G d8 60 rr26, oTR o b w s2 i2 p9 br26 k lt pl26]
        refine s_iload_n X dX5_next_84 rfl 0 rfl ?_
        refine s_perm (ws' := [oTR o b w s2 i2 p9 br26 k lt pl26, oBy b a n af26 e, aB G a 3000 B, oWd w b base26, oSt s2 b, oBi i2 b, aI G p9 20 bp26, oTk k pl26 af26 wh26 re26 x len26 i8 d8 ror26 rl26, aB G x 401 t26, aI G i8 60 rn26, aF G d8 60 rr26, oTk lt lpl laf lwh lre lx llen li8 ld8 lror lrl, aB G lx 401 lt9, aI G li8 60 lrn, aF G ld8 60 lrr]) [14, 4, 5, 6, 7, 8, 9, 10, 11, 12, 13, 0, 1, 2, 3] (by decide) rfl rfl ?_
        refine s_iret X Y dX5_next_85 (rfl) ?_
        refine ⟨br26, base26, af26, pl26, bp26, pl26, af26, wh26, len26, ror26, rl26, re26, t26, rn26, rr26, ?_, rfl, ?_, ?_, ?_, ?_, ?_, ?_, ?_, ?_⟩
        · (first | (exfalso; omega) | (exact g0))
        · (first | (exfalso; omega) | (exact (g1 (by omega)).1))
        · (first | (exfalso; omega) | (exact (g1 (by omega)).2))
        · (first | (exfalso; omega) | (exact g2 (by omega)))
        · (first | (exfalso; omega) | (exact g3))
        · (first | (exfalso; omega) | (exact g4))
        · (first | (exfalso; omega) | (exact g5))
        · (first | (exfalso; omega) | (exact g6))
        · (first | (exfalso; omega) | (exact g7))
    · exfalso; omega
  · exfalso; omega
set_option maxRecDepth 100000 in
set_option maxHeartbeats 4000000 in
theorem c_X5_next_n (l : Launch) (G : GX) (o : Nat) (b : Nat) (w : Nat) (s2 : Nat) (i2 : Nat) (p9 : Nat) (lt : Nat) (br : Int) (lp : Int) (a : Nat) (n : Int) (rd : Int) (e : Int) (B : Nat → Nat) (base : Int) (bp : Nat → Int) (k : Nat) (x : Nat) (i8 : Nat) (d8 : Nat) (pl : Int) (af : Int) (wh : Int) (len : Int) (ror : Int) (rl : Int) (re : UInt64) (t : Nat → Nat) (rn : Nat → Int) (rr : Nat → UInt64) (lx : Nat) (li8 : Nat) (ld8 : Nat) (lpl : Int) (laf : Int) (lwh : Int) (llen : Int) (lror : Int) (lrl : Int) (lre : UInt64) (lt9 : Nat → Nat) (lrn : Nat → Int) (lrr : Nat → UInt64) (hn : 0 ≤ n ∧ n ≤ 3000) (hBb : ∀ j, B j < 256) (he : e = 0 ∨ e = 1) (htb : ∀ j, t j < 256) (hrd : 0 ≤ rd ∧ rd ≤ n) (hbr : 0 ≤ br ∧ br ≤ 20) (hr0 : ror = 0 ∨ ror = 1) (hneg : (nxS B n rd) = n ∨ nxK B n e rd br ≤ 0) : CtI l G yX5_next cX5_next 3 (some .int) ({ frames := 7, cells := 0, slots := 0, locals := 163 } : Room) [.ref o] [oTR o b w s2 i2 p9 br lt k lp, oBy b a n rd e, aB G a 3000 B, oWd w b base, oSt s2 b, oBi i2 b, aI G p9 20 bp, oTk k pl af wh re x len i8 d8 ror rl, aB G x 401 t, aI G i8 60 rn, aF G d8 60 rr, oTk lt lpl laf lwh lre lx llen li8 ld8 lror lrl, aB G lx 401 lt9, aI G li8 60 lrn, aF G ld8 60 lrr] (fun (z9 : Int) (w9 : va_W) => ∃ (br2 : Int), ∃ (rd2 : Int), ∃ (lp2 : Int), ∃ (pl2 : Int), ∃ (af2 : Int), ∃ (wh2 : Int), ∃ (len2 : Int), ∃ (ror2 : Int), ∃ (rl2 : Int), ∃ (re2 : UInt64), ∃ (t2 : Nat → Nat), ∃ (rn2 : Nat → Int), ∃ (rr2 : Nat → UInt64), z9 = (nxA B n e rd br) ∧ w9 = [oTR o b w s2 i2 p9 br2 lt k lp2, oBy b a n rd2 e, aB G a 3000 B, oWd w b base, oSt s2 b, oBi i2 b, aI G p9 20 bp, oTk k pl2 af2 wh2 re2 x len2 i8 d8 ror2 rl2, aB G x 401 t2, aI G i8 60 rn2, aF G d8 60 rr2, oTk lt lpl laf lwh lre lx llen li8 ld8 lror lrl, aB G lx 401 lt9, aI G li8 60 lrn, aF G ld8 60 lrr] ∧ (br2 = nxBr B n e rd br) ∧ (rd2 = nxRd B n e rd br) ∧ (lp2 = nxLp B n e rd br lp bp) ∧ (∀ j, t2 j < 256) ∧ (ror2 = 0 ∨ ror2 = 1)) := by
  intro sz
  refine met_of (fun wc sz => va_Qi (qI _) (posW G wc sz) (va_A wc sz)) (by decide) [(0, .ref o)] rfl (Nat.le_of_ble_eq_true rfl) (fun K hK9 hnm X Y => ?_)
  subst hK9
  replace Y : RI K G (some .int) 0 0 _ := Y
  have hS9 : nxS B n rd = fw B n rd 0 := rfl
  refine s_aload_n X dX5_next_0 rfl 0 rfl ?_
  refine s_get X dX5_next_1 fl_X5_10 0 rfl rfl ?_
  refine s_callIV X lk_X5_80 [1, 2] [0, 3, 4, 5, 6, 7, 8, 9, 10, 11, 12, 13, 14] (wr := [oTR o b w s2 i2 p9 br lt k lp, oWd w b base, oSt s2 b, oBi i2 b, aI G p9 20 bp, oTk k pl af wh re x len i8 d8 ror rl, aB G x 401 t, aI G i8 60 rn, aF G d8 60 rr, oTk lt lpl laf lwh lre lx llen li8 ld8 lror lrl, aB G lx 401 lt9, aI G li8 60 lrn, aF G ld8 60 lrr]) rfl rfl (by decide) (by decide) (by decide) (c_X1_firstNotWhite (kl K) G b a n rd e B (by assumption) (by assumption) (by omega)) rfl rfl dX5_next_4 rfl rfl (Nat.le_of_ble_eq_true rfl) (by decide) (fun z1 w1 h1 => ?_)
  obtain ⟨rfl, rfl⟩ := h1
  show SW K G 3 0 0 7 [(0, .ref o)] [.int (iI (fw B n rd 0))] [oTR o b w s2 i2 p9 br lt k lp, oWd w b base, oSt s2 b, oBi i2 b, aI G p9 20 bp, oTk k pl af wh re x len i8 d8 ror rl, aB G x 401 t, aI G i8 60 rn, aF G d8 60 rr, oTk lt lpl laf lwh lre lx llen li8 ld8 lror lrl, aB G lx 401 lt9, aI G li8 60 lrn, aF G ld8 60 lrr, oBy b a n rd e, aB G a 3000 B]
  have q2 := fw_R (B := B) (n := n) _ rd 0 rfl (by omega)
  have hSR : rd ≤ nxS B n rd ∧ nxS B n rd ≤ n := by rw [hS9]; assumption
  refine s_cast (st' := [.int (iI (nxS B n rd))]) (by rfl) rfl rfl ?_
  refine s_istore_n X dX5_next_7 rfl [(1, .int (iI (nxS B n rd))), (0, .ref o)] (by decide) rfl ?_
  refine s_iload_n X dX5_next_8 rfl 0 rfl ?_
  refine s_aload_n X dX5_next_9 rfl 1 rfl ?_
  refine s_get X dX5_next_10 fl_X5_10 0 rfl rfl ?_
  refine s_get X dX5_next_13 fl_X5_73 13 rfl rfl ?_
  refine s_icmp_ne X 24 dX5_next_16 (by decide) (by omega) (fun c16 => ?_) (fun c16 => ?_)
  · refine s_aload_n X dX5_next_24 rfl 1 rfl ?_
    refine s_get X dX5_next_25 fl_X5_50 0 rfl rfl ?_
    refine s_iload_n X dX5_next_28 rfl 0 rfl ?_
    refine s_callVV X lk_X5_87 [5] [0, 1, 2, 3, 4, 6, 7, 8, 9, 10, 11, 12, 13, 14] (wr := [oTR o b w s2 i2 p9 br lt k lp, oWd w b base, oSt s2 b, oBi i2 b, aI G p9 20 bp, aB G x 401 t, aI G i8 60 rn, aF G d8 60 rr, oTk lt lpl laf lwh lre lx llen li8 ld8 lror lrl, aB G lx 401 lt9, aI G li8 60 lrn, aF G ld8 60 lrr, oBy b a n rd e, aB G a 3000 B]) rfl rfl (by decide) (by decide) (by decide) (c_X3_startAt (kl K) G k x i8 d8 pl af wh len ror rl re (nxS B n rd)) rfl rfl dX5_next_29 rfl rfl (Nat.le_of_ble_eq_true rfl) (by decide) (fun w3 h3 => ?_)
    obtain rfl := h3
    show SW K G 3 0 0 32 [(1, .int (iI (nxS B n rd))), (0, .ref o)] [] [oTR o b w s2 i2 p9 br lt k lp, oWd w b base, oSt s2 b, oBi i2 b, aI G p9 20 bp, aB G x 401 t, aI G i8 60 rn, aF G d8 60 rr, oTk lt lpl laf lwh lre lx llen li8 ld8 lror lrl, aB G lx 401 lt9, aI G li8 60 lrn, aF G ld8 60 lrr, oBy b a n rd e, aB G a 3000 B, oTk k (nxS B n rd) ((nxS B n rd) + 1) 0 FP.dconst0 x 0 i8 d8 ror 0]
    refine s_aload_n X dX5_next_32 rfl 1 rfl ?_
    refine s_aload_n X dX5_next_33 rfl 1 rfl ?_
    refine s_get X dX5_next_34 fl_X5_10 0 rfl rfl ?_
    refine s_iload_n X dX5_next_37 rfl 0 rfl ?_
    refine s_callIV X lk_X5_91 [12, 13] [0, 1, 2, 3, 4, 5, 6, 7, 8, 9, 10, 11, 14] (wr := [oTR o b w s2 i2 p9 br lt k lp, oWd w b base, oSt s2 b, oBi i2 b, aI G p9 20 bp, aB G x 401 t, aI G i8 60 rn, aF G d8 60 rr, oTk lt lpl laf lwh lre lx llen li8 ld8 lror lrl, aB G lx 401 lt9, aI G li8 60 lrn, aF G ld8 60 lrr, oTk k (nxS B n rd) ((nxS B n rd) + 1) 0 FP.dconst0 x 0 i8 d8 ror 0]) rfl rfl (by decide) (by decide) (by decide) (c_X1_at (kl K) G b a n rd e B (nxS B n rd) (by assumption) (by assumption) (by omega)) rfl rfl dX5_next_38 rfl rfl (Nat.le_of_ble_eq_true rfl) (by decide) (fun z4 w4 h4 => ?_)
    obtain ⟨rfl, rfl⟩ := h4
    show SW K G 3 0 0 41 [(1, .int (iI (nxS B n rd))), (0, .ref o)] [.int (iI (bA B n (nxS B n rd))), .ref o] [oTR o b w s2 i2 p9 br lt k lp, oWd w b base, oSt s2 b, oBi i2 b, aI G p9 20 bp, aB G x 401 t, aI G i8 60 rn, aF G d8 60 rr, oTk lt lpl laf lwh lre lx llen li8 ld8 lror lrl, aB G lx 401 lt9, aI G li8 60 lrn, aF G ld8 60 lrr, oTk k (nxS B n rd) ((nxS B n rd) + 1) 0 FP.dconst0 x 0 i8 d8 ror 0, oBy b a n rd e, aB G a 3000 B]
    have q5 := bA_C n (nxS B n rd) (by assumption : ∀ j, B j < 256)
    refine s_callIV X lk_X5_95 [0, 13, 14, 1, 2, 3, 4, 12, 5, 6, 7] [8, 9, 10, 11] (wr := [oTk lt lpl laf lwh lre lx llen li8 ld8 lror lrl, aB G lx 401 lt9, aI G li8 60 lrn, aF G ld8 60 lrr]) rfl rfl (by decide) (by decide) (by decide) (c_X5_readToken (kl K) G o b w s2 i2 p9 lt br lp a n rd e B base bp k x i8 d8 (nxS B n rd) ((nxS B n rd) + 1) 0 0 ror 0 FP.dconst0 t rn rr (bA B n (nxS B n rd)) (by assumption) (by assumption) (by omega) (by assumption) (by omega) (by first | rfl | assumption) (by first | rfl | assumption) (by first | rfl | assumption) (by first | rfl | assumption) (by first | rfl | assumption) (by omega) (by omega) (rfl)) rfl rfl dX5_next_41 rfl rfl (Nat.le_of_ble_eq_true rfl) (by decide) (fun z6 w6 h6 => ?_)
    obtain ⟨br26, base26, bp26, pl26, af26, wh26, len26, ror26, rl26, re26, t26, rn26, rr26, rfl, f6_0, f6_1, f6_2, f6_3, f6_4, f6_5, f6_6, f6_7⟩ := h6
    show SW K G 3 0 0 44 [(1, .int (iI (nxS B n rd))), (0, .ref o)] [.int (iI z6)] [oTk lt lpl laf lwh lre lx llen li8 ld8 lror lrl, aB G lx 401 lt9, aI G li8 60 lrn, aF G ld8 60 lrr, oTR o b w s2 i2 p9 br26 lt k lp, oBy b a n rd e, aB G a 3000 B, oWd w b base26, oSt s2 b, oBi i2 b, aI G p9 20 bp26, oTk k pl26 af26 wh26 re26 x len26 i8 d8 ror26 rl26, aB G x 401 t26, aI G i8 60 rn26, aF G d8 60 rr26]
    have g0 := f6_0
    have g1 := f6_1
    have g2 := f6_2
    have g3 := f6_3
    have g4 := f6_4
    have g5 := f6_5
    have g6 := f6_6
    have g7 := f6_7
    have hk9 : nxK B n e rd br = z6 := g0.symm
    have hk8 := nxK_R B n e rd br
    have hz9 : z6 ≤ 0 := by omega
    rw [rtB_le (by rw [← g0]; exact hz9)] at g3
    rw [if_neg (by omega), if_neg (by omega)] at g4
    rw [if_neg (by omega)] at g5
    subst g3
    subst g4
    subst g5
    refine s_istore_n X dX5_next_44 rfl [(2, .int (iI z6)), (1, .int (iI (nxS B n rd))), (0, .ref o)] (by decide) rfl ?_
    refine s_iload_n X dX5_next_45 rfl 0 rfl ?_
    refine s_if_ne X 51 dX5_next_46 (by decide) (by omega) (fun c46 => ?_) (fun c46 => ?_)
    · refine s_aload_n X dX5_next_51 rfl 2 rfl ?_
      refine s_get X dX5_next_52 fl_X5_10 4 rfl rfl ?_
      refine s_aload_n X dX5_next_55 rfl 2 rfl ?_
      refine s_get X dX5_next_56 fl_X5_50 4 rfl rfl ?_
      refine s_get X dX5_next_59 fl_X5_98 11 rfl rfl ?_
      refine s_put X dX5_next_62 fl_X5_77 tyX1_ok nmX1 5 rfl rfl (rfl) (rfl) (Nat.le_of_ble_eq_true rfl) [oTk lt lpl laf lwh lre lx llen li8 ld8 lror lrl, aB G lx 401 lt9, aI G li8 60 lrn, aF G ld8 60 lrr, oTR o b w s2 i2 p9 br26 lt k lp, oBy b a n af26 e, aB G a 3000 B, oWd w b base26, oSt s2 b, oBi i2 b, aI G p9 20 bp26, oTk k pl26 af26 wh26 re26 x len26 i8 d8 ror26 rl26, aB G x 401 t26, aI G i8 60 rn26, aF G d8 60 rr26] rfl ?_
      refine s_aload_n X dX5_next_65 rfl 2 rfl ?_
      refine s_aload_n X dX5_next_66 rfl 2 rfl ?_
      refine s_get X dX5_next_67 fl_X5_50 4 rfl rfl ?_
      refine s_get X dX5_next_70 fl_X5_101 11 rfl rfl ?_
      refine s_put X dX5_next_73 fl_X5_104 tyX5_ok nmX5 4 rfl rfl (rfl) (rfl) (Nat.le_of_ble_eq_true rfl) [oTk lt lpl laf lwh lre lx llen li8 ld8 lror lrl, aB G lx 401 lt9, aI G li8 60 lrn, aF G ld8 60 lrr, oTR o b w s2 i2 p9 br26 lt k pl26, oBy b a n af26 e, aB G a 3000 B, oWd w b base26, oSt s2 b, oBi i2 b, aI G p9 20 bp26, oTk k pl26 af26 wh26 re26 x len26 i8 d8 ror26 rl26, aB G x 401 t26, aI G i8 60 rn26, aF G d8 60 rr26] rfl ?_
      refine s_iload_n X dX5_next_76 rfl 0 rfl ?_
      refine s_if_le X 84 dX5_next_77 (by decide) (by omega) (fun c77 => ?_) (fun c77 => ?_)
      · refine s_iload_n X dX5_next_84 rfl 0 rfl ?_
        refine s_perm (ws' := [oTR o b w s2 i2 p9 br26 lt k pl26, oBy b a n af26 e, aB G a 3000 B, oWd w b base26, oSt s2 b, oBi i2 b, aI G p9 20 bp26, oTk k pl26 af26 wh26 re26 x len26 i8 d8 ror26 rl26, aB G x 401 t26, aI G i8 60 rn26, aF G d8 60 rr26, oTk lt lpl laf lwh lre lx llen li8 ld8 lror lrl, aB G lx 401 lt9, aI G li8 60 lrn, aF G ld8 60 lrr]) [4, 5, 6, 7, 8, 9, 10, 11, 12, 13, 14, 0, 1, 2, 3] (by decide) rfl rfl ?_
        refine s_iret X Y dX5_next_85 (rfl) ?_
        refine ⟨br26, af26, pl26, pl26, af26, wh26, len26, ror26, rl26, re26, t26, rn26, rr26, ?_, ?_, ?_, ?_, ?_, ?_, ?_⟩
        · (first | (exfalso; omega) | (rw [nxA, if_neg (by assumption), hk9]))
        · (first | (exfalso; omega) | (rfl))
        · (first | (exfalso; omega) | (rw [nxBr, if_neg (by omega)]))
        · (first | (exfalso; omega) | (rw [nxRd, if_pos ⟨by assumption, by omega⟩]; exact (g1 (by omega)).1))
        · (first | (exfalso; omega) | (rw [nxLp, if_neg (by assumption), if_pos (by omega)]; exact (g1 (by omega)).2))
        · (first | (exfalso; omega) | (exact g6))
        · (first | (exfalso; omega) | (exact g7))
      · exfalso; omega
    · refine s_iconst X dX5_next_49 ?_
      refine s_perm (ws' := [oTR o b w s2 i2 p9 br26 lt k lp, oBy b a n rd e, aB G a 3000 B, oWd w b base26, oSt s2 b, oBi i2 b, aI G p9 20 bp26, oTk k pl26 af26 wh26 re26 x len26 i8 d8 ror26 rl26, aB G x 401 t26, aI G i8 60 rn26, aF G d8 60 rr26, oTk lt lpl laf lwh lre lx llen li8 ld8 lror lrl, aB G lx 401 lt9, aI G li8 60 lrn, aF G ld8 60 lrr]) [4, 5, 6, 7, 8, 9, 10, 11, 12, 13, 14, 0, 1, 2, 3] (by decide) rfl rfl ?_
      refine s_iret X Y dX5_next_50 (rfl) ?_
      refine ⟨br26, rd, lp, pl26, af26, wh26, len26, ror26, rl26, re26, t26, rn26, rr26, ?_, ?_, ?_, ?_, ?_, ?_, ?_⟩
      · (first | (exfalso; omega) | (rw [nxA, if_neg (by assumption), hk9]; omega))
      · (first | (exfalso; omega) | (rfl))
      · (first | (exfalso; omega) | (rw [nxBr, if_neg (by omega)]))
      · (first | (exfalso; omega) | (rw [nxRd, if_neg (by omega)]))
      · (first | (exfalso; omega) | (rw [nxLp, if_neg (by assumption), if_neg (by omega)]))
      · (first | (exfalso; omega) | (exact g6))
      · (first | (exfalso; omega) | (exact g7))
  · refine s_aload_n X dX5_next_19 rfl 1 rfl ?_
    refine s_callIV X lk_X5_84 [0, 13, 4] [1, 2, 3, 5, 6, 7, 8, 9, 10, 11, 12, 14] (wr := [oWd w b base, oSt s2 b, oBi i2 b, oTk k pl af wh re x len i8 d8 ror rl, aB G x 401 t, aI G i8 60 rn, aF G d8 60 rr, oTk lt lpl laf lwh lre lx llen li8 ld8 lror lrl, aB G lx 401 lt9, aI G li8 60 lrn, aF G ld8 60 lrr, aB G a 3000 B]) rfl rfl (by decide) (by decide) (by decide) (c_X5_nothingFollows (kl K) G o b w s2 i2 p9 lt br lp k a n rd e bp (by omega) (by omega)) rfl rfl dX5_next_20 rfl rfl (Nat.le_of_ble_eq_true rfl) (by decide) (fun z7 w7 h7 => ?_)
    obtain ⟨br27, lp27, rfl, rfl, f7_0, f7_1⟩ := h7
    show SW K G 3 0 0 23 [(1, .int (iI (nxS B n rd))), (0, .ref o)] [.int (iI (if e = 0 then 0 else if br ≤ 0 then 20 else -7))] [oWd w b base, oSt s2 b, oBi i2 b, oTk k pl af wh re x len i8 d8 ror rl, aB G x 401 t, aI G i8 60 rn, aF G d8 60 rr, oTk lt lpl laf lwh lre lx llen li8 ld8 lror lrl, aB G lx 401 lt9, aI G li8 60 lrn, aF G ld8 60 lrr, aB G a 3000 B, oTR o b w s2 i2 p9 br27 lt k lp27, oBy b a n rd e, aI G p9 20 bp]
    have g0 := f7_0
    have g1 := f7_1
    refine s_perm (ws' := [oTR o b w s2 i2 p9 br27 lt k lp27, oBy b a n rd e, aB G a 3000 B, oWd w b base, oSt s2 b, oBi i2 b, aI G p9 20 bp, oTk k pl af wh re x len i8 d8 ror rl, aB G x 401 t, aI G i8 60 rn, aF G d8 60 rr, oTk lt lpl laf lwh lre lx llen li8 ld8 lror lrl, aB G lx 401 lt9, aI G li8 60 lrn, aF G ld8 60 lrr]) [12, 13, 11, 0, 1, 2, 14, 3, 4, 5, 6, 7, 8, 9, 10] (by decide) rfl rfl ?_
    refine s_iret X Y dX5_next_23 (rfl) ?_
    refine ⟨br27, rd, lp27, pl, af, wh, len, ror, rl, re, t, rn, rr, ?_, rfl, ?_, ?_, ?_, ?_, ?_⟩
    · (first | (exfalso; omega) | (rw [nxA, if_pos (show nxS B n rd = n from by assumption)]))
    · (first | (exfalso; omega) | (rw [g0]; exact nxBr_end (by assumption)))
    · (first | (exfalso; omega) | (rw [nxRd, if_neg (by omega)]))
    · (first | (exfalso; omega) | (rw [g1, nxLp, if_pos (show nxS B n rd = n from by assumption)]))
    · (first | (exfalso; omega) | (exact htb))
    · (first | (exfalso; omega) | (exact hr0))
