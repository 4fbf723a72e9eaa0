set_option maxRecDepth 100000 in
set_option maxHeartbeats 4000000 in
theorem c_X0_fillRow (l : Launch) (G : GX) (s : Nat) (b : Nat) (a : Nat) (n : Int) (rd : Int) (e : Int) (B : Nat → Nat) (k : Nat) (x : Nat) (i8 : Nat) (d8 : Nat) (pl : Int) (af : Int) (wh : Int) (len : Int) (ror : Int) (rl : Int) (re : UInt64) (rn : Nat → Int) (rr : Nat → UInt64) (i : Int) (cnt : Int) (f : Int) (hn : 0 ≤ n ∧ n ≤ 3000) (hBb : ∀ j, B j < 256) (hi : 0 ≤ i ∧ i + cnt * wO f ≤ n) (hc : 0 ≤ cnt ∧ cnt ≤ 60) (hf : 0 ≤ f ∧ f < 256) (h0 : rl = 0) (hr0 : ror = 0 ∨ ror = 1) : CtI l G yX0_fillRow cX0_fillRow 10 (some .int) ({ frames := 3, cells := 0, slots := 0, locals := 67 } : Room) [.ref s, .ref k, .int (iI i), .int (iI cnt), .int (iI f)] [oBi s b, oBy b a n rd e, aB G a 3000 B, oTk k pl af wh re x len i8 d8 ror rl, aI G i8 60 rn, aF G d8 60 rr] (fun (z9 : Int) (w9 : va_W) => ∃ (wh2 : Int), ∃ (len2 : Int), ∃ (ror2 : Int), ∃ (rl2 : Int), ∃ (rn2 : Nat → Int), ∃ (rr2 : Nat → UInt64), z9 = (frA B n i f cnt) ∧ w9 = [oBi s b, oBy b a n rd e, aB G a 3000 B, oTk k pl af wh2 re x len2 i8 d8 ror2 rl2, aI G i8 60 rn2, aF G d8 60 rr2] ∧ (z9 = 16 → wh2 = cnt ∧ len2 = 0 ∧ rl2 = cnt ∧ ror2 = tf (rwR f) ∧ ∀ j : Int, 0 ≤ j → j < cnt → rn2 j.toNat = rowN B n i f j ∧ rr2 j.toNat = rowD B n i f j) ∧ (ror2 = 0 ∨ ror2 = 1)) := by
  intro sz
  refine met_of (fun wc sz => va_Qi (qI _) (posW G wc sz) (va_A wc sz)) (by decide) [(0, .ref s), (1, .ref k), (2, .int (iI i)), (3, .int (iI cnt)), (4, .int (iI f))] rfl (Nat.le_of_ble_eq_true rfl) (fun K hK9 hnm X Y => ?_)
  subst hK9
  replace Y : RI K G (some .int) 0 0 _ := Y
  refine s_iload X dX0_fillRow_0 4 rfl ?_
  refine s_callIS X lk_X0_77 [] [0, 1, 2, 3, 4, 5] (wr := [oBi s b, oBy b a n rd e, aB G a 3000 B, oTk k pl af wh re x len i8 d8 ror rl, aI G i8 60 rn, aF G d8 60 rr]) rfl rfl (by decide) (by decide) (by decide) (c_X0_widthOf (kl K) G f (by omega)) dX0_fillRow_2 rfl rfl (Nat.le_of_ble_eq_true rfl) (by decide) (fun z1 w1 h1 => ?_)
  obtain ⟨rfl, rfl⟩ := h1
  show SW K G 10 0 0 5 [(0, .ref s), (1, .ref k), (2, .int (iI i)), (3, .int (iI cnt)), (4, .int (iI f))] [.int (iI (wO f))] [oBi s b, oBy b a n rd e, aB G a 3000 B, oTk k pl af wh re x len i8 d8 ror rl, aI G i8 60 rn, aF G d8 60 rr]
  have q2 := wO_c f
  refine s_istore X dX0_fillRow_5 [(5, .int (iI (wO f))), (0, .ref s), (1, .ref k), (2, .int (iI i)), (3, .int (iI cnt)), (4, .int (iI f))] (by decide) rfl ?_
  refine s_iload X dX0_fillRow_7 5 rfl ?_
  refine s_bipush 127 X dX0_fillRow_9 (by decide) ?_
  refine s_iand (z := f % 128) X dX0_fillRow_11 (by exact iand127 _) ?_
  refine s_bipush 48 X dX0_fillRow_12 (by decide) ?_
  have j22 : ∀ (y6 : Int) (hy6 : (y6 = 1 ∧ f % 128 = 48) ∨ (y6 = 0 ∧ ¬ f % 128 = 48)), SW K G 10 0 0 22 [(5, .int (iI (wO f))), (0, .ref s), (1, .ref k), (2, .int (iI i)), (3, .int (iI cnt)), (4, .int (iI f))] [.int (iI y6)] [oBi s b, oBy b a n rd e, aB G a 3000 B, oTk k pl af wh re x len i8 d8 ror rl, aI G i8 60 rn, aF G d8 60 rr] := by
    intro y6 hy6
    refine s_istore X dX0_fillRow_22 [(6, .int (iI y6)), (5, .int (iI (wO f))), (0, .ref s), (1, .ref k), (2, .int (iI i)), (3, .int (iI cnt)), (4, .int (iI f))] (by decide) rfl ?_
    have j42 : ∀ (y7 : Int) (hy7 : y7 = tf (rwR f)) (hz7 : y7 = 0 ∨ y7 = 1), SW K G 10 0 0 42 [(6, .int (iI y6)), (5, .int (iI (wO f))), (0, .ref s), (1, .ref k), (2, .int (iI i)), (3, .int (iI cnt)), (4, .int (iI f))] [.int (iI y7)] [oBi s b, oBy b a n rd e, aB G a 3000 B, oTk k pl af wh re x len i8 d8 ror rl, aI G i8 60 rn, aF G d8 60 rr] := by
      intro y7 hy7 hz7
      refine s_istore X dX0_fillRow_42 [(7, .int (iI y7)), (6, .int (iI y6)), (5, .int (iI (wO f))), (0, .ref s), (1, .ref k), (2, .int (iI i)), (3, .int (iI cnt)), (4, .int (iI f))] (by decide) rfl ?_
      refine s_aload_n X dX0_fillRow_44 rfl 4 rfl ?_
      refine s_iload X dX0_fillRow_45 0 rfl ?_
      refine s_put X dX0_fillRow_47 fl_X0_110 tyX3_ok nmX3 3 rfl rfl (by rw [hy7]; exact tf_nar _) (by rw [hy7]; exact tf_fit _) (Nat.le_of_ble_eq_true rfl) [oBi s b, oBy b a n rd e, aB G a 3000 B, oTk k pl af wh re x len i8 d8 y7 rl, aI G i8 60 rn, aF G d8 60 rr] rfl ?_
      refine s_iconst X dX0_fillRow_50 ?_
      refine s_istore X dX0_fillRow_51 [(8, .int (iI 0)), (7, .int (iI y7)), (6, .int (iI y6)), (5, .int (iI (wO f))), (0, .ref s), (1, .ref k), (2, .int (iI i)), (3, .int (iI cnt)), (4, .int (iI f))] (by decide) rfl ?_
      have lp : ∀ (m9 : Nat) (q : Int) (rn1 : Nat → Int) (rr1 : Nat → UInt64) (h1 : 0 ≤ q ∧ q ≤ cnt) (h2 : ∀ j : Int, 0 ≤ j → j < q → rn1 j.toNat = rowN B n i f j ∧ rr1 j.toNat = rowD B n i f j) (h3 : f % 128 = 48 → infC B n i f q.toNat = 0), (cnt - q).toNat < m9 → SW K G 10 0 0 53 [(8, .int (iI q)), (7, .int (iI y7)), (6, .int (iI y6)), (5, .int (iI (wO f))), (0, .ref s), (1, .ref k), (2, .int (iI i)), (3, .int (iI cnt)), (4, .int (iI f))] [] [oBi s b, oBy b a n rd e, aB G a 3000 B, oTk k pl af wh re x len i8 d8 y7 q, aI G i8 60 rn1, aF G d8 60 rr1] := by
        intro m9
        induction m9 with
        | zero => intro q rn1 rr1 h1 h2 h3 hm9; exact absurd hm9 (Nat.not_lt_zero _)
        | succ m9 ih9 =>
          intro q rn1 rr1 h1 h2 h3 hm9
          refine s_iload X dX0_fillRow_53 0 rfl ?_
          refine s_iload_n X dX0_fillRow_55 rfl 7 rfl ?_
          refine s_icmp_ge X 149 dX0_fillRow_56 (by decide) (by omega) (fun c56 => ?_) (fun c56 => ?_)
          · refine s_aload_n X dX0_fillRow_149 rfl 5 rfl ?_
            refine s_bipush 16 X dX0_fillRow_150 (by decide) ?_
            refine s_iload_n X dX0_fillRow_152 rfl 7 rfl ?_
            refine s_i2l X dX0_fillRow_153 (by omega) ?_
            refine s_callIV X lk_X0_65 [3] [0, 1, 2, 4, 5] (wr := [oBi s b, oBy b a n rd e, aB G a 3000 B, aI G i8 60 rn1, aF G d8 60 rr1]) rfl rfl (by decide) (by decide) (by decide) (c_X3_asWhole (kl K) G k x i8 d8 pl af wh len y7 q re 16 cnt) rfl rfl dX0_fillRow_154 rfl rfl (Nat.le_of_ble_eq_true rfl) (by decide) (fun z3 w3 h3 => ?_)
            obtain ⟨rfl, rfl⟩ := h3
            show SW K G 10 0 0 157 [(8, .int (iI q)), (7, .int (iI y7)), (6, .int (iI y6)), (5, .int (iI (wO f))), (0, .ref s), (1, .ref k), (2, .int (iI i)), (3, .int (iI cnt)), (4, .int (iI f))] [.int (iI 16)] [oBi s b, oBy b a n rd e, aB G a 3000 B, aI G i8 60 rn1, aF G d8 60 rr1, oTk k pl af cnt re x 0 i8 d8 y7 q]
            refine s_perm (ws' := [oBi s b, oBy b a n rd e, aB G a 3000 B, oTk k pl af cnt re x 0 i8 d8 y7 q, aI G i8 60 rn1, aF G d8 60 rr1]) [0, 1, 2, 5, 3, 4] (by decide) rfl rfl ?_
            refine s_iret X Y dX0_fillRow_157 (rfl) ?_
            refine ⟨cnt, 0, y7, q, rn1, rr1, ?_, rfl, ?_, ?_⟩
            · (first | (exfalso; omega) | (rw [frA, if_neg (fun h9 => by have := h3 h9.1; rw [show q = cnt by omega] at this; omega)]))
            · (first | (exfalso; omega) | (intro _; rw [show cnt = q by omega]; exact ⟨rfl, rfl, rfl, hy7, h2⟩))
            · (first | (exfalso; omega) | (exact hz7))
          · refine s_aload_n X dX0_fillRow_59 rfl 4 rfl ?_
            refine s_iload_n X dX0_fillRow_60 rfl 6 rfl ?_
            refine s_iload X dX0_fillRow_61 0 rfl ?_
            refine s_iload X dX0_fillRow_63 3 rfl ?_
            refine s_imul X dX0_fillRow_65 ?_
            refine s_iadd X dX0_fillRow_66 ?_
            refine s_iload X dX0_fillRow_67 3 rfl ?_
            refine s_iload X dX0_fillRow_69 8 rfl ?_
            refine s_sipush 128 X dX0_fillRow_71 (by decide) ?_
            refine s_icmp_lt X 81 dX0_fillRow_74 (by decide) (by omega) (fun c74 => ?_) (fun c74 => ?_)
            · refine s_iconst X dX0_fillRow_81 ?_
              have hlf9 := lfO_c f
              have hw9 := wO_c f
              have hk9 := k_in hw9 h1.1 c56 hi.2
              refine s_cast (st' := [.int (iI (lfO f)), .int (iI (wO f)), .int (iI (i + (q * (wO f)))), .ref s]) (by rw [show lfO f = 0 from by (unfold lfO; first | rw [if_pos (by omega)] | rw [if_neg (by omega)])]) rfl rfl ?_
              refine s_callIV X lk_X0_61 [0, 1, 2] [3, 4, 5] (wr := [oTk k pl af wh re x len i8 d8 y7 q, aI G i8 60 rn1, aF G d8 60 rr1]) rfl rfl (by decide) (by decide) (by decide) (c_X0_signedAt (kl K) G s b a n rd e B (i + (q * (wO f))) (wO f) (lfO f) (by assumption) (by assumption) (by omega) (by omega) (by omega)) rfl rfl dX0_fillRow_82 rfl rfl (Nat.le_of_ble_eq_true rfl) (by decide) (fun z4 w4 h4 => ?_)
              obtain ⟨rfl, rfl⟩ := h4
              show SW K G 10 0 0 85 [(8, .int (iI q)), (7, .int (iI y7)), (6, .int (iI y6)), (5, .int (iI (wO f))), (0, .ref s), (1, .ref k), (2, .int (iI i)), (3, .int (iI cnt)), (4, .int (iI f))] [.int (iI (nmb B n (i + (q * (wO f))) (wO f) (lfO f)))] [oTk k pl af wh re x len i8 d8 y7 q, aI G i8 60 rn1, aF G d8 60 rr1, oBi s b, oBy b a n rd e, aB G a 3000 B]
              have q5 := nmb_R (B := B) (n := n) (i := (i + (q * (wO f)))) (w := (wO f)) (lf := (lfO f)) (by assumption) (by omega) (by omega) (by omega)
              have hZr : R32 (rwZ B n i f q) := by show R32 (nmb B n (i + q * wO f) (wO f) (lfO f)); assumption
              refine s_cast (st' := [.int (iI (rwZ B n i f q))]) (by rfl) rfl rfl ?_
              refine s_istore X dX0_fillRow_85 [(9, .int (iI (rwZ B n i f q))), (8, .int (iI q)), (7, .int (iI y7)), (6, .int (iI y6)), (5, .int (iI (wO f))), (0, .ref s), (1, .ref k), (2, .int (iI i)), (3, .int (iI cnt)), (4, .int (iI f))] (by decide) rfl ?_
              refine s_iload X dX0_fillRow_87 3 rfl ?_
              refine s_if_eq X 103 dX0_fillRow_89 (by decide) (by omega) (fun c89 => ?_) (fun c89 => ?_)
              · refine s_iload X dX0_fillRow_103 2 rfl ?_
                refine s_if_eq X 136 dX0_fillRow_105 (by decide) (by omega) (fun c105 => ?_) (fun c105 => ?_)
                · have hnr : ¬ rwR f := by intro h9; rw [tf_t h9] at hy7; omega
                  refine s_aload_n X dX0_fillRow_136 rfl 6 rfl ?_
                  refine s_iload X dX0_fillRow_137 0 rfl ?_
                  refine s_dconst0 X dX0_fillRow_139 ?_
                  refine s_callVV X lk_X0_114 [0, 1, 2] [3, 4, 5] (wr := [oBi s b, oBy b a n rd e, aB G a 3000 B]) rfl rfl (by decide) (by decide) (by decide) (c_X3_putInRow (kl K) G k x i8 d8 pl af wh len y7 q re rn1 rr1 (rwZ B n i f q) FP.dconst0 (by omega)) rfl rfl dX0_fillRow_140 rfl rfl (Nat.le_of_ble_eq_true rfl) (by decide) (fun w6 h6 => ?_)
                  obtain rfl := h6
                  show SW K G 10 0 0 143 [(9, .int (iI (rwZ B n i f q))), (8, .int (iI q)), (7, .int (iI y7)), (6, .int (iI y6)), (5, .int (iI (wO f))), (0, .ref s), (1, .ref k), (2, .int (iI i)), (3, .int (iI cnt)), (4, .int (iI f))] [] [oBi s b, oBy b a n rd e, aB G a 3000 B, oTk k pl af wh re x len i8 d8 y7 (q + 1), aI G i8 60 (uI rn1 q.toNat (rwZ B n i f q)), aF G d8 60 (uD rr1 q.toNat FP.dconst0)]
                  refine s_iinc (z := q + 1) X dX0_fillRow_143 1 rfl (by first | rfl | omega) [(8, .int (iI (q + 1))), (9, .int (iI (rwZ B n i f q))), (7, .int (iI y7)), (6, .int (iI y6)), (5, .int (iI (wO f))), (0, .ref s), (1, .ref k), (2, .int (iI i)), (3, .int (iI cnt)), (4, .int (iI f))] (by decide) rfl ?_
                  refine s_goto X 53 dX0_fillRow_146 (by decide) ?_
                  refine s_locs (lv' := [(8, .int (iI (q + 1))), (7, .int (iI y7)), (6, .int (iI y6)), (5, .int (iI (wO f))), (0, .ref s), (1, .ref k), (2, .int (iI i)), (3, .int (iI cnt)), (4, .int (iI f))]) [0, 2, 3, 4, 5, 6, 7, 8, 9] rfl ?_
                  exact ih9 (q + 1) (uI rn1 q.toNat (rwZ B n i f q)) (uD rr1 q.toNat FP.dconst0) (by omega) (row_step h1.1 h2 (by rw [rowN]; first | rw [if_pos (by assumption)] | rw [if_neg (by assumption)]) (by rw [rowD]; first | (exfalso; omega) | (rw [if_pos (by assumption), rwD]; first | rw [if_pos (by omega)] | rw [if_neg (by omega)]) | rw [if_neg (by assumption)])) (fun h9 => by rw [infC_s h1.1, if_neg (fun h8 => h8.elim (fun h7 => by have := h3 h9; omega) (fun h7 => by first | exact absurd h7 (by assumption) | omega))]) (by omega)
                · have hyr : rwR f := by refine Decidable.byContradiction fun h9 => ?_; rw [tf_f h9] at hy7; omega
                  refine s_aload_n X dX0_fillRow_108 rfl 6 rfl ?_
                  refine s_iconst X dX0_fillRow_109 ?_
                  refine s_iload X dX0_fillRow_110 3 rfl ?_
                  refine s_if_eq X 123 dX0_fillRow_112 (by decide) (by omega) (fun c112 => ?_) (fun c112 => ?_)
                  · refine s_iload X dX0_fillRow_123 0 rfl ?_
                    refine s_iload X dX0_fillRow_125 9 rfl ?_
                    refine s_callDS X lk_X0_80 [] [0, 1, 2, 3, 4, 5] (wr := [oTk k pl af wh re x len i8 d8 y7 q, aI G i8 60 rn1, aF G d8 60 rr1, oBi s b, oBy b a n rd e, aB G a 3000 B]) rfl rfl (by decide) (by decide) (by decide) (c_X0_fixedValue (kl K) G (rwZ B n i f q) f (by omega) (by omega)) dX0_fillRow_127 rfl rfl (Nat.le_of_ble_eq_true rfl) (by decide) (fun z7 w7 h7 => ?_)
                    obtain ⟨rfl, rfl⟩ := h7
                    show SW K G 10 0 0 130 [(9, .int (iI (rwZ B n i f q))), (8, .int (iI q)), (7, .int (iI y7)), (6, .int (iI y6)), (5, .int (iI (wO f))), (0, .ref s), (1, .ref k), (2, .int (iI i)), (3, .int (iI cnt)), (4, .int (iI f))] [.double (fxV (rwZ B n i f q) f), .int (iI 0), .ref k] [oTk k pl af wh re x len i8 d8 y7 q, aI G i8 60 rn1, aF G d8 60 rr1, oBi s b, oBy b a n rd e, aB G a 3000 B]
                    refine s_callVV X lk_X0_114 [0, 1, 2] [3, 4, 5] (wr := [oBi s b, oBy b a n rd e, aB G a 3000 B]) rfl rfl (by decide) (by decide) (by decide) (c_X3_putInRow (kl K) G k x i8 d8 pl af wh len y7 q re rn1 rr1 0 (fxV (rwZ B n i f q) f) (by omega)) rfl rfl dX0_fillRow_130 rfl rfl (Nat.le_of_ble_eq_true rfl) (by decide) (fun w8 h8 => ?_)
                    obtain rfl := h8
                    show SW K G 10 0 0 133 [(9, .int (iI (rwZ B n i f q))), (8, .int (iI q)), (7, .int (iI y7)), (6, .int (iI y6)), (5, .int (iI (wO f))), (0, .ref s), (1, .ref k), (2, .int (iI i)), (3, .int (iI cnt)), (4, .int (iI f))] [] [oBi s b, oBy b a n rd e, aB G a 3000 B, oTk k pl af wh re x len i8 d8 y7 (q + 1), aI G i8 60 (uI rn1 q.toNat 0), aF G d8 60 (uD rr1 q.toNat (fxV (rwZ B n i f q) f))]
                    refine s_goto X 143 dX0_fillRow_133 (by decide) ?_
                    refine s_iinc (z := q + 1) X dX0_fillRow_143 1 rfl (by first | rfl | omega) [(8, .int (iI (q + 1))), (9, .int (iI (rwZ B n i f q))), (7, .int (iI y7)), (6, .int (iI y6)), (5, .int (iI (wO f))), (0, .ref s), (1, .ref k), (2, .int (iI i)), (3, .int (iI cnt)), (4, .int (iI f))] (by decide) rfl ?_
                    refine s_goto X 53 dX0_fillRow_146 (by decide) ?_
                    refine s_locs (lv' := [(8, .int (iI (q + 1))), (7, .int (iI y7)), (6, .int (iI y6)), (5, .int (iI (wO f))), (0, .ref s), (1, .ref k), (2, .int (iI i)), (3, .int (iI cnt)), (4, .int (iI f))]) [0, 2, 3, 4, 5, 6, 7, 8, 9] rfl ?_
                    exact ih9 (q + 1) (uI rn1 q.toNat 0) (uD rr1 q.toNat (fxV (rwZ B n i f q) f)) (by omega) (row_step h1.1 h2 (by rw [rowN]; first | rw [if_pos (by assumption)] | rw [if_neg (by assumption)]) (by rw [rowD]; first | (exfalso; omega) | (rw [if_pos (by assumption), rwD]; first | rw [if_pos (by omega)] | rw [if_neg (by omega)]) | rw [if_neg (by assumption)])) (fun h9 => by rw [infC_s h1.1, if_neg (fun h8 => h8.elim (fun h7 => by have := h3 h9; omega) (fun h7 => by first | exact absurd h7 (by assumption) | omega))]) (by omega)
                  · refine s_iload X dX0_fillRow_115 0 rfl ?_
                    refine s_callDS X lk_X0_92 [] [0, 1, 2, 3, 4, 5] (wr := [oTk k pl af wh re x len i8 d8 y7 q, aI G i8 60 rn1, aF G d8 60 rr1, oBi s b, oBy b a n rd e, aB G a 3000 B]) rfl rfl (by decide) (by decide) (by decide) (c_X0_floatValue (kl K) G (rwZ B n i f q) (by omega)) dX0_fillRow_117 rfl rfl (Nat.le_of_ble_eq_true rfl) (by decide) (fun z9 w9 h9 => ?_)
                    obtain ⟨rfl, rfl⟩ := h9
                    show SW K G 10 0 0 120 [(9, .int (iI (rwZ B n i f q))), (8, .int (iI q)), (7, .int (iI y7)), (6, .int (iI y6)), (5, .int (iI (wO f))), (0, .ref s), (1, .ref k), (2, .int (iI i)), (3, .int (iI cnt)), (4, .int (iI f))] [.double (flV (rwZ B n i f q)), .int (iI 0), .ref k] [oTk k pl af wh re x len i8 d8 y7 q, aI G i8 60 rn1, aF G d8 60 rr1, oBi s b, oBy b a n rd e, aB G a 3000 B]
                    refine s_goto X 130 dX0_fillRow_120 (by decide) ?_
                    refine s_callVV X lk_X0_114 [0, 1, 2] [3, 4, 5] (wr := [oBi s b, oBy b a n rd e, aB G a 3000 B]) rfl rfl (by decide) (by decide) (by decide) (c_X3_putInRow (kl K) G k x i8 d8 pl af wh len y7 q re rn1 rr1 0 (flV (rwZ B n i f q)) (by omega)) rfl rfl dX0_fillRow_130 rfl rfl (Nat.le_of_ble_eq_true rfl) (by decide) (fun w10 h10 => ?_)
                    obtain rfl := h10
                    show SW K G 10 0 0 133 [(9, .int (iI (rwZ B n i f q))), (8, .int (iI q)), (7, .int (iI y7)), (6, .int (iI y6)), (5, .int (iI (wO f))), (0, .ref s), (1, .ref k), (2, .int (iI i)), (3, .int (iI cnt)), (4, .int (iI f))] [] [oBi s b, oBy b a n rd e, aB G a 3000 B, oTk k pl af wh re x len i8 d8 y7 (q + 1), aI G i8 60 (uI rn1 q.toNat 0), aF G d8 60 (uD rr1 q.toNat (flV (rwZ B n i f q)))]
                    refine s_goto X 143 dX0_fillRow_133 (by decide) ?_
                    refine s_iinc (z := q + 1) X dX0_fillRow_143 1 rfl (by first | rfl | omega) [(8, .int (iI (q + 1))), (9, .int (iI (rwZ B n i f q))), (7, .int (iI y7)), (6, .int (iI y6)), (5, .int (iI (wO f))), (0, .ref s), (1, .ref k), (2, .int (iI i)), (3, .int (iI cnt)), (4, .int (iI f))] (by decide) rfl ?_
                    refine s_goto X 53 dX0_fillRow_146 (by decide) ?_
                    refine s_locs (lv' := [(8, .int (iI (q + 1))), (7, .int (iI y7)), (6, .int (iI y6)), (5, .int (iI (wO f))), (0, .ref s), (1, .ref k), (2, .int (iI i)), (3, .int (iI cnt)), (4, .int (iI f))]) [0, 2, 3, 4, 5, 6, 7, 8, 9] rfl ?_
                    exact ih9 (q + 1) (uI rn1 q.toNat 0) (uD rr1 q.toNat (flV (rwZ B n i f q))) (by omega) (row_step h1.1 h2 (by rw [rowN]; first | rw [if_pos (by assumption)] | rw [if_neg (by assumption)]) (by rw [rowD]; first | (exfalso; omega) | (rw [if_pos (by assumption), rwD]; first | rw [if_pos (by omega)] | rw [if_neg (by omega)]) | rw [if_neg (by assumption)])) (fun h9 => by rw [infC_s h1.1, if_neg (fun h8 => h8.elim (fun h7 => by have := h3 h9; omega) (fun h7 => by first | exact absurd h7 (by assumption) | omega))]) (by omega)
              · refine s_iload X dX0_fillRow_92 0 rfl ?_
                refine s_callIS X lk_X0_88 [] [0, 1, 2, 3, 4, 5] (wr := [oTk k pl af wh re x len i8 d8 y7 q, aI G i8 60 rn1, aF G d8 60 rr1, oBi s b, oBy b a n rd e, aB G a 3000 B]) rfl rfl (by decide) (by decide) (by decide) (c_X0_isFinite (kl K) G (rwZ B n i f q) (by omega)) dX0_fillRow_94 rfl rfl (Nat.le_of_ble_eq_true rfl) (by decide) (fun z11 w11 h11 => ?_)
                obtain ⟨rfl, rfl⟩ := h11
                show SW K G 10 0 0 97 [(9, .int (iI (rwZ B n i f q))), (8, .int (iI q)), (7, .int (iI y7)), (6, .int (iI y6)), (5, .int (iI (wO f))), (0, .ref s), (1, .ref k), (2, .int (iI i)), (3, .int (iI cnt)), (4, .int (iI f))] [.int (iI (tf (¬ eb (rwZ B n i f q) = 255)))] [oTk k pl af wh re x len i8 d8 y7 q, aI G i8 60 rn1, aF G d8 60 rr1, oBi s b, oBy b a n rd e, aB G a 3000 B]
                refine s_tf_ne X 103 dX0_fillRow_97 (by decide) (fun c97 => ?_) (fun c97 => ?_)
                · refine s_iload X dX0_fillRow_103 2 rfl ?_
                  refine s_if_eq X 136 dX0_fillRow_105 (by decide) (by omega) (fun c105 => ?_) (fun c105 => ?_)
                  · have hnr : ¬ rwR f := by intro h9; rw [tf_t h9] at hy7; omega
                    refine s_aload_n X dX0_fillRow_136 rfl 6 rfl ?_
                    refine s_iload X dX0_fillRow_137 0 rfl ?_
                    refine s_dconst0 X dX0_fillRow_139 ?_
                    refine s_callVV X lk_X0_114 [0, 1, 2] [3, 4, 5] (wr := [oBi s b, oBy b a n rd e, aB G a 3000 B]) rfl rfl (by decide) (by decide) (by decide) (c_X3_putInRow (kl K) G k x i8 d8 pl af wh len y7 q re rn1 rr1 (rwZ B n i f q) FP.dconst0 (by omega)) rfl rfl dX0_fillRow_140 rfl rfl (Nat.le_of_ble_eq_true rfl) (by decide) (fun w12 h12 => ?_)
                    obtain rfl := h12
                    show SW K G 10 0 0 143 [(9, .int (iI (rwZ B n i f q))), (8, .int (iI q)), (7, .int (iI y7)), (6, .int (iI y6)), (5, .int (iI (wO f))), (0, .ref s), (1, .ref k), (2, .int (iI i)), (3, .int (iI cnt)), (4, .int (iI f))] [] [oBi s b, oBy b a n rd e, aB G a 3000 B, oTk k pl af wh re x len i8 d8 y7 (q + 1), aI G i8 60 (uI rn1 q.toNat (rwZ B n i f q)), aF G d8 60 (uD rr1 q.toNat FP.dconst0)]
                    refine s_iinc (z := q + 1) X dX0_fillRow_143 1 rfl (by first | rfl | omega) [(8, .int (iI (q + 1))), (9, .int (iI (rwZ B n i f q))), (7, .int (iI y7)), (6, .int (iI y6)), (5, .int (iI (wO f))), (0, .ref s), (1, .ref k), (2, .int (iI i)), (3, .int (iI cnt)), (4, .int (iI f))] (by decide) rfl ?_
                    refine s_goto X 53 dX0_fillRow_146 (by decide) ?_
                    refine s_locs (lv' := [(8, .int (iI (q + 1))), (7, .int (iI y7)), (6, .int (iI y6)), (5, .int (iI (wO f))), (0, .ref s), (1, .ref k), (2, .int (iI i)), (3, .int (iI cnt)), (4, .int (iI f))]) [0, 2, 3, 4, 5, 6, 7, 8, 9] rfl ?_
                    exact ih9 (q + 1) (uI rn1 q.toNat (rwZ B n i f q)) (uD rr1 q.toNat FP.dconst0) (by omega) (row_step h1.1 h2 (by rw [rowN]; first | rw [if_pos (by assumption)] | rw [if_neg (by assumption)]) (by rw [rowD]; first | (exfalso; omega) | (rw [if_pos (by assumption), rwD]; first | rw [if_pos (by omega)] | rw [if_neg (by omega)]) | rw [if_neg (by assumption)])) (fun h9 => by rw [infC_s h1.1, if_neg (fun h8 => h8.elim (fun h7 => by have := h3 h9; omega) (fun h7 => by first | exact absurd h7 (by assumption) | omega))]) (by omega)
                  · have hyr : rwR f := by refine Decidable.byContradiction fun h9 => ?_; rw [tf_f h9] at hy7; omega
                    refine s_aload_n X dX0_fillRow_108 rfl 6 rfl ?_
                    refine s_iconst X dX0_fillRow_109 ?_
                    refine s_iload X dX0_fillRow_110 3 rfl ?_
                    refine s_if_eq X 123 dX0_fillRow_112 (by decide) (by omega) (fun c112 => ?_) (fun c112 => ?_)
                    · refine s_iload X dX0_fillRow_123 0 rfl ?_
                      refine s_iload X dX0_fillRow_125 9 rfl ?_
                      refine s_callDS X lk_X0_80 [] [0, 1, 2, 3, 4, 5] (wr := [oTk k pl af wh re x len i8 d8 y7 q, aI G i8 60 rn1, aF G d8 60 rr1, oBi s b, oBy b a n rd e, aB G a 3000 B]) rfl rfl (by decide) (by decide) (by decide) (c_X0_fixedValue (kl K) G (rwZ B n i f q) f (by omega) (by omega)) dX0_fillRow_127 rfl rfl (Nat.le_of_ble_eq_true rfl) (by decide) (fun z13 w13 h13 => ?_)
                      obtain ⟨rfl, rfl⟩ := h13
                      show SW K G 10 0 0 130 [(9, .int (iI (rwZ B n i f q))), (8, .int (iI q)), (7, .int (iI y7)), (6, .int (iI y6)), (5, .int (iI (wO f))), (0, .ref s), (1, .ref k), (2, .int (iI i)), (3, .int (iI cnt)), (4, .int (iI f))] [.double (fxV (rwZ B n i f q) f), .int (iI 0), .ref k] [oTk k pl af wh re x len i8 d8 y7 q, aI G i8 60 rn1, aF G d8 60 rr1, oBi s b, oBy b a n rd e, aB G a 3000 B]
                      refine s_callVV X lk_X0_114 [0, 1, 2] [3, 4, 5] (wr := [oBi s b, oBy b a n rd e, aB G a 3000 B]) rfl rfl (by decide) (by decide) (by decide) (c_X3_putInRow (kl K) G k x i8 d8 pl af wh len y7 q re rn1 rr1 0 (fxV (rwZ B n i f q) f) (by omega)) rfl rfl dX0_fillRow_130 rfl rfl (Nat.le_of_ble_eq_true rfl) (by decide) (fun w14 h14 => ?_)
                      obtain rfl := h14
                      show SW K G 10 0 0 133 [(9, .int (iI (rwZ B n i f q))), (8, .int (iI q)), (7, .int (iI y7)), (6, .int (iI y6)), (5, .int (iI (wO f))), (0, .ref s), (1, .ref k), (2, .int (iI i)), (3, .int (iI cnt)), (4, .int (iI f))] [] [oBi s b, oBy b a n rd e, aB G a 3000 B, oTk k pl af wh re x len i8 d8 y7 (q + 1), aI G i8 60 (uI rn1 q.toNat 0), aF G d8 60 (uD rr1 q.toNat (fxV (rwZ B n i f q) f))]
                      refine s_goto X 143 dX0_fillRow_133 (by decide) ?_
                      refine s_iinc (z := q + 1) X dX0_fillRow_143 1 rfl (by first | rfl | omega) [(8, .int (iI (q + 1))), (9, .int (iI (rwZ B n i f q))), (7, .int (iI y7)), (6, .int (iI y6)), (5, .int (iI (wO f))), (0, .ref s), (1, .ref k), (2, .int (iI i)), (3, .int (iI cnt)), (4, .int (iI f))] (by decide) rfl ?_
                      refine s_goto X 53 dX0_fillRow_146 (by decide) ?_
                      refine s_locs (lv' := [(8, .int (iI (q + 1))), (7, .int (iI y7)), (6, .int (iI y6)), (5, .int (iI (wO f))), (0, .ref s), (1, .ref k), (2, .int (iI i)), (3, .int (iI cnt)), (4, .int (iI f))]) [0, 2, 3, 4, 5, 6, 7, 8, 9] rfl ?_
                      exact ih9 (q + 1) (uI rn1 q.toNat 0) (uD rr1 q.toNat (fxV (rwZ B n i f q) f)) (by omega) (row_step h1.1 h2 (by rw [rowN]; first | rw [if_pos (by assumption)] | rw [if_neg (by assumption)]) (by rw [rowD]; first | (exfalso; omega) | (rw [if_pos (by assumption), rwD]; first | rw [if_pos (by omega)] | rw [if_neg (by omega)]) | rw [if_neg (by assumption)])) (fun h9 => by rw [infC_s h1.1, if_neg (fun h8 => h8.elim (fun h7 => by have := h3 h9; omega) (fun h7 => by first | exact absurd h7 (by assumption) | omega))]) (by omega)
                    · refine s_iload X dX0_fillRow_115 0 rfl ?_
                      refine s_callDS X lk_X0_92 [] [0, 1, 2, 3, 4, 5] (wr := [oTk k pl af wh re x len i8 d8 y7 q, aI G i8 60 rn1, aF G d8 60 rr1, oBi s b, oBy b a n rd e, aB G a 3000 B]) rfl rfl (by decide) (by decide) (by decide) (c_X0_floatValue (kl K) G (rwZ B n i f q) (by omega)) dX0_fillRow_117 rfl rfl (Nat.le_of_ble_eq_true rfl) (by decide) (fun z15 w15 h15 => ?_)
                      obtain ⟨rfl, rfl⟩ := h15
                      show SW K G 10 0 0 120 [(9, .int (iI (rwZ B n i f q))), (8, .int (iI q)), (7, .int (iI y7)), (6, .int (iI y6)), (5, .int (iI (wO f))), (0, .ref s), (1, .ref k), (2, .int (iI i)), (3, .int (iI cnt)), (4, .int (iI f))] [.double (flV (rwZ B n i f q)), .int (iI 0), .ref k] [oTk k pl af wh re x len i8 d8 y7 q, aI G i8 60 rn1, aF G d8 60 rr1, oBi s b, oBy b a n rd e, aB G a 3000 B]
                      refine s_goto X 130 dX0_fillRow_120 (by decide) ?_
                      refine s_callVV X lk_X0_114 [0, 1, 2] [3, 4, 5] (wr := [oBi s b, oBy b a n rd e, aB G a 3000 B]) rfl rfl (by decide) (by decide) (by decide) (c_X3_putInRow (kl K) G k x i8 d8 pl af wh len y7 q re rn1 rr1 0 (flV (rwZ B n i f q)) (by omega)) rfl rfl dX0_fillRow_130 rfl rfl (Nat.le_of_ble_eq_true rfl) (by decide) (fun w16 h16 => ?_)
                      obtain rfl := h16
                      show SW K G 10 0 0 133 [(9, .int (iI (rwZ B n i f q))), (8, .int (iI q)), (7, .int (iI y7)), (6, .int (iI y6)), (5, .int (iI (wO f))), (0, .ref s), (1, .ref k), (2, .int (iI i)), (3, .int (iI cnt)), (4, .int (iI f))] [] [oBi s b, oBy b a n rd e, aB G a 3000 B, oTk k pl af wh re x len i8 d8 y7 (q + 1), aI G i8 60 (uI rn1 q.toNat 0), aF G d8 60 (uD rr1 q.toNat (flV (rwZ B n i f q)))]
                      refine s_goto X 143 dX0_fillRow_133 (by decide) ?_
                      refine s_iinc (z := q + 1) X dX0_fillRow_143 1 rfl (by first | rfl | omega) [(8, .int (iI (q + 1))), (9, .int (iI (rwZ B n i f q))), (7, .int (iI y7)), (6, .int (iI y6)), (5, .int (iI (wO f))), (0, .ref s), (1, .ref k), (2, .int (iI i)), (3, .int (iI cnt)), (4, .int (iI f))] (by decide) rfl ?_
                      refine s_goto X 53 dX0_fillRow_146 (by decide) ?_
                      refine s_locs (lv' := [(8, .int (iI (q + 1))), (7, .int (iI y7)), (6, .int (iI y6)), (5, .int (iI (wO f))), (0, .ref s), (1, .ref k), (2, .int (iI i)), (3, .int (iI cnt)), (4, .int (iI f))]) [0, 2, 3, 4, 5, 6, 7, 8, 9] rfl ?_
                      exact ih9 (q + 1) (uI rn1 q.toNat 0) (uD rr1 q.toNat (flV (rwZ B n i f q))) (by omega) (row_step h1.1 h2 (by rw [rowN]; first | rw [if_pos (by assumption)] | rw [if_neg (by assumption)]) (by rw [rowD]; first | (exfalso; omega) | (rw [if_pos (by assumption), rwD]; first | rw [if_pos (by omega)] | rw [if_neg (by omega)]) | rw [if_neg (by assumption)])) (fun h9 => by rw [infC_s h1.1, if_neg (fun h8 => h8.elim (fun h7 => by have := h3 h9; omega) (fun h7 => by first | exact absurd h7 (by assumption) | omega))]) (by omega)
                · have hff : f % 128 = 48 := by omega
                  have hE : eb (rwZ B n i f q) = 255 := Decidable.of_not_not (by assumption)
                  refine s_bipush (-6) X dX0_fillRow_100 (by decide) ?_
                  refine s_perm (ws' := [oBi s b, oBy b a n rd e, aB G a 3000 B, oTk k pl af wh re x len i8 d8 y7 q, aI G i8 60 rn1, aF G d8 60 rr1]) [3, 4, 5, 0, 1, 2] (by decide) rfl rfl ?_
                  refine s_iret X Y dX0_fillRow_102 (rfl) ?_
                  refine ⟨wh, len, y7, q, rn1, rr1, ?_, rfl, ?_, ?_⟩
                  · (first | (exfalso; omega) | (rw [frA, if_pos ⟨hff, infC_hit ⟨h1.1, by assumption⟩ hE⟩]))
                  · (first | (exfalso; omega) | (intro h; exact absurd h (by decide)))
                  · (first | (exfalso; omega) | (exact hz7))
            · refine s_iconst X dX0_fillRow_77 ?_
              refine s_goto X 82 dX0_fillRow_78 (by decide) ?_
              have hlf9 := lfO_c f
              have hw9 := wO_c f
              have hk9 := k_in hw9 h1.1 c56 hi.2
              refine s_cast (st' := [.int (iI (lfO f)), .int (iI (wO f)), .int (iI (i + (q * (wO f)))), .ref s]) (by rw [show lfO f = 1 from by (unfold lfO; first | rw [if_pos (by omega)] | rw [if_neg (by omega)])]) rfl rfl ?_
              refine s_callIV X lk_X0_61 [0, 1, 2] [3, 4, 5] (wr := [oTk k pl af wh re x len i8 d8 y7 q, aI G i8 60 rn1, aF G d8 60 rr1]) rfl rfl (by decide) (by decide) (by decide) (c_X0_signedAt (kl K) G s b a n rd e B (i + (q * (wO f))) (wO f) (lfO f) (by assumption) (by assumption) (by omega) (by omega) (by omega)) rfl rfl dX0_fillRow_82 rfl rfl (Nat.le_of_ble_eq_true rfl) (by decide) (fun z17 w17 h17 => ?_)
              obtain ⟨rfl, rfl⟩ := h17
              show SW K G 10 0 0 85 [(8, .int (iI q)), (7, .int (iI y7)), (6, .int (iI y6)), (5, .int (iI (wO f))), (0, .ref s), (1, .ref k), (2, .int (iI i)), (3, .int (iI cnt)), (4, .int (iI f))] [.int (iI (nmb B n (i + (q * (wO f))) (wO f) (lfO f)))] [oTk k pl af wh re x len i8 d8 y7 q, aI G i8 60 rn1, aF G d8 60 rr1, oBi s b, oBy b a n rd e, aB G a 3000 B]
              have q18 := nmb_R (B := B) (n := n) (i := (i + (q * (wO f)))) (w := (wO f)) (lf := (lfO f)) (by assumption) (by omega) (by omega) (by omega)
              have hZr : R32 (rwZ B n i f q) := by show R32 (nmb B n (i + q * wO f) (wO f) (lfO f)); assumption
              refine s_cast (st' := [.int (iI (rwZ B n i f q))]) (by rfl) rfl rfl ?_
              refine s_istore X dX0_fillRow_85 [(9, .int (iI (rwZ B n i f q))), (8, .int (iI q)), (7, .int (iI y7)), (6, .int (iI y6)), (5, .int (iI (wO f))), (0, .ref s), (1, .ref k), (2, .int (iI i)), (3, .int (iI cnt)), (4, .int (iI f))] (by decide) rfl ?_
              refine s_iload X dX0_fillRow_87 3 rfl ?_
              refine s_if_eq X 103 dX0_fillRow_89 (by decide) (by omega) (fun c89 => ?_) (fun c89 => ?_)
              · refine s_iload X dX0_fillRow_103 2 rfl ?_
                refine s_if_eq X 136 dX0_fillRow_105 (by decide) (by omega) (fun c105 => ?_) (fun c105 => ?_)
                · have hnr : ¬ rwR f := by intro h9; rw [tf_t h9] at hy7; omega
                  refine s_aload_n X dX0_fillRow_136 rfl 6 rfl ?_
                  refine s_iload X dX0_fillRow_137 0 rfl ?_
                  refine s_dconst0 X dX0_fillRow_139 ?_
                  refine s_callVV X lk_X0_114 [0, 1, 2] [3, 4, 5] (wr := [oBi s b, oBy b a n rd e, aB G a 3000 B]) rfl rfl (by decide) (by decide) (by decide) (c_X3_putInRow (kl K) G k x i8 d8 pl af wh len y7 q re rn1 rr1 (rwZ B n i f q) FP.dconst0 (by omega)) rfl rfl dX0_fillRow_140 rfl rfl (Nat.le_of_ble_eq_true rfl) (by decide) (fun w19 h19 => ?_)
                  obtain rfl := h19
                  show SW K G 10 0 0 143 [(9, .int (iI (rwZ B n i f q))), (8, .int (iI q)), (7, .int (iI y7)), (6, .int (iI y6)), (5, .int (iI (wO f))), (0, .ref s), (1, .ref k), (2, .int (iI i)), (3, .int (iI cnt)), (4, .int (iI f))] [] [oBi s b, oBy b a n rd e, aB G a 3000 B, oTk k pl af wh re x len i8 d8 y7 (q + 1), aI G i8 60 (uI rn1 q.toNat (rwZ B n i f q)), aF G d8 60 (uD rr1 q.toNat FP.dconst0)]
                  refine s_iinc (z := q + 1) X dX0_fillRow_143 1 rfl (by first | rfl | omega) [(8, .int (iI (q + 1))), (9, .int (iI (rwZ B n i f q))), (7, .int (iI y7)), (6, .int (iI y6)), (5, .int (iI (wO f))), (0, .ref s), (1, .ref k), (2, .int (iI i)), (3, .int (iI cnt)), (4, .int (iI f))] (by decide) rfl ?_
                  refine s_goto X 53 dX0_fillRow_146 (by decide) ?_
                  refine s_locs (lv' := [(8, .int (iI (q + 1))), (7, .int (iI y7)), (6, .int (iI y6)), (5, .int (iI (wO f))), (0, .ref s), (1, .ref k), (2, .int (iI i)), (3, .int (iI cnt)), (4, .int (iI f))]) [0, 2, 3, 4, 5, 6, 7, 8, 9] rfl ?_
                  exact ih9 (q + 1) (uI rn1 q.toNat (rwZ B n i f q)) (uD rr1 q.toNat FP.dconst0) (by omega) (row_step h1.1 h2 (by rw [rowN]; first | rw [if_pos (by assumption)] | rw [if_neg (by assumption)]) (by rw [rowD]; first | (exfalso; omega) | (rw [if_pos (by assumption), rwD]; first | rw [if_pos (by omega)] | rw [if_neg (by omega)]) | rw [if_neg (by assumption)])) (fun h9 => by rw [infC_s h1.1, if_neg (fun h8 => h8.elim (fun h7 => by have := h3 h9; omega) (fun h7 => by first | exact absurd h7 (by assumption) | omega))]) (by omega)
                · have hyr : rwR f := by refine Decidable.byContradiction fun h9 => ?_; rw [tf_f h9] at hy7; omega
                  refine s_aload_n X dX0_fillRow_108 rfl 6 rfl ?_
                  refine s_iconst X dX0_fillRow_109 ?_
                  refine s_iload X dX0_fillRow_110 3 rfl ?_
                  refine s_if_eq X 123 dX0_fillRow_112 (by decide) (by omega) (fun c112 => ?_) (fun c112 => ?_)
                  · refine s_iload X dX0_fillRow_123 0 rfl ?_
                    refine s_iload X dX0_fillRow_125 9 rfl ?_
                    refine s_callDS X lk_X0_80 [] [0, 1, 2, 3, 4, 5] (wr := [oTk k pl af wh re x len i8 d8 y7 q, aI G i8 60 rn1, aF G d8 60 rr1, oBi s b, oBy b a n rd e, aB G a 3000 B]) rfl rfl (by decide) (by decide) (by decide) (c_X0_fixedValue (kl K) G (rwZ B n i f q) f (by omega) (by omega)) dX0_fillRow_127 rfl rfl (Nat.le_of_ble_eq_true rfl) (by decide) (fun z20 w20 h20 => ?_)
                    obtain ⟨rfl, rfl⟩ := h20
                    show SW K G 10 0 0 130 [(9, .int (iI (rwZ B n i f q))), (8, .int (iI q)), (7, .int (iI y7)), (6, .int (iI y6)), (5, .int (iI (wO f))), (0, .ref s), (1, .ref k), (2, .int (iI i)), (3, .int (iI cnt)), (4, .int (iI f))] [.double (fxV (rwZ B n i f q) f), .int (iI 0), .ref k] [oTk k pl af wh re x len i8 d8 y7 q, aI G i8 60 rn1, aF G d8 60 rr1, oBi s b, oBy b a n rd e, aB G a 3000 B]
                    refine s_callVV X lk_X0_114 [0, 1, 2] [3, 4, 5] (wr := [oBi s b, oBy b a n rd e, aB G a 3000 B]) rfl rfl (by decide) (by decide) (by decide) (c_X3_putInRow (kl K) G k x i8 d8 pl af wh len y7 q re rn1 rr1 0 (fxV (rwZ B n i f q) f) (by omega)) rfl rfl dX0_fillRow_130 rfl rfl (Nat.le_of_ble_eq_true rfl) (by decide) (fun w21 h21 => ?_)
                    obtain rfl := h21
                    show SW K G 10 0 0 133 [(9, .int (iI (rwZ B n i f q))), (8, .int (iI q)), (7, .int (iI y7)), (6, .int (iI y6)), (5, .int (iI (wO f))), (0, .ref s), (1, .ref k), (2, .int (iI i)), (3, .int (iI cnt)), (4, .int (iI f))] [] [oBi s b, oBy b a n rd e, aB G a 3000 B, oTk k pl af wh re x len i8 d8 y7 (q + 1), aI G i8 60 (uI rn1 q.toNat 0), aF G d8 60 (uD rr1 q.toNat (fxV (rwZ B n i f q) f))]
                    refine s_goto X 143 dX0_fillRow_133 (by decide) ?_
                    refine s_iinc (z := q + 1) X dX0_fillRow_143 1 rfl (by first | rfl | omega) [(8, .int (iI (q + 1))), (9, .int (iI (rwZ B n i f q))), (7, .int (iI y7)), (6, .int (iI y6)), (5, .int (iI (wO f))), (0, .ref s), (1, .ref k), (2, .int (iI i)), (3, .int (iI cnt)), (4, .int (iI f))] (by decide) rfl ?_
                    refine s_goto X 53 dX0_fillRow_146 (by decide) ?_
                    refine s_locs (lv' := [(8, .int (iI (q + 1))), (7, .int (iI y7)), (6, .int (iI y6)), (5, .int (iI (wO f))), (0, .ref s), (1, .ref k), (2, .int (iI i)), (3, .int (iI cnt)), (4, .int (iI f))]) [0, 2, 3, 4, 5, 6, 7, 8, 9] rfl ?_
                    exact ih9 (q + 1) (uI rn1 q.toNat 0) (uD rr1 q.toNat (fxV (rwZ B n i f q) f)) (by omega) (row_step h1.1 h2 (by rw [rowN]; first | rw [if_pos (by assumption)] | rw [if_neg (by assumption)]) (by rw [rowD]; first | (exfalso; omega) | (rw [if_pos (by assumption), rwD]; first | rw [if_pos (by omega)] | rw [if_neg (by omega)]) | rw [if_neg (by assumption)])) (fun h9 => by rw [infC_s h1.1, if_neg (fun h8 => h8.elim (fun h7 => by have := h3 h9; omega) (fun h7 => by first | exact absurd h7 (by assumption) | omega))]) (by omega)
                  · refine s_iload X dX0_fillRow_115 0 rfl ?_
                    refine s_callDS X lk_X0_92 [] [0, 1, 2, 3, 4, 5] (wr := [oTk k pl af wh re x len i8 d8 y7 q, aI G i8 60 rn1, aF G d8 60 rr1, oBi s b, oBy b a n rd e, aB G a 3000 B]) rfl rfl (by decide) (by decide) (by decide) (c_X0_floatValue (kl K) G (rwZ B n i f q) (by omega)) dX0_fillRow_117 rfl rfl (Nat.le_of_ble_eq_true rfl) (by decide) (fun z22 w22 h22 => ?_)
                    obtain ⟨rfl, rfl⟩ := h22
                    show SW K G 10 0 0 120 [(9, .int (iI (rwZ B n i f q))), (8, .int (iI q)), (7, .int (iI y7)), (6, .int (iI y6)), (5, .int (iI (wO f))), (0, .ref s), (1, .ref k), (2, .int (iI i)), (3, .int (iI cnt)), (4, .int (iI f))] [.double (flV (rwZ B n i f q)), .int (iI 0), .ref k] [oTk k pl af wh re x len i8 d8 y7 q, aI G i8 60 rn1, aF G d8 60 rr1, oBi s b, oBy b a n rd e, aB G a 3000 B]
                    refine s_goto X 130 dX0_fillRow_120 (by decide) ?_
                    refine s_callVV X lk_X0_114 [0, 1, 2] [3, 4, 5] (wr := [oBi s b, oBy b a n rd e, aB G a 3000 B]) rfl rfl (by decide) (by decide) (by decide) (c_X3_putInRow (kl K) G k x i8 d8 pl af wh len y7 q re rn1 rr1 0 (flV (rwZ B n i f q)) (by omega)) rfl rfl dX0_fillRow_130 rfl rfl (Nat.le_of_ble_eq_true rfl) (by decide) (fun w23 h23 => ?_)
                    obtain rfl := h23
                    show SW K G 10 0 0 133 [(9, .int (iI (rwZ B n i f q))), (8, .int (iI q)), (7, .int (iI y7)), (6, .int (iI y6)), (5, .int (iI (wO f))), (0, .ref s), (1, .ref k), (2, .int (iI i)), (3, .int (iI cnt)), (4, .int (iI f))] [] [oBi s b, oBy b a n rd e, aB G a 3000 B, oTk k pl af wh re x len i8 d8 y7 (q + 1), aI G i8 60 (uI rn1 q.toNat 0), aF G d8 60 (uD rr1 q.toNat (flV (rwZ B n i f q)))]
                    refine s_goto X 143 dX0_fillRow_133 (by decide) ?_
                    refine s_iinc (z := q + 1) X dX0_fillRow_143 1 rfl (by first | rfl | omega) [(8, .int (iI (q + 1))), (9, .int (iI (rwZ B n i f q))), (7, .int (iI y7)), (6, .int (iI y6)), (5, .int (iI (wO f))), (0, .ref s), (1, .ref k), (2, .int (iI i)), (3, .int (iI cnt)), (4, .int (iI f))] (by decide) rfl ?_
                    refine s_goto X 53 dX0_fillRow_146 (by decide) ?_
                    refine s_locs (lv' := [(8, .int (iI (q + 1))), (7, .int (iI y7)), (6, .int (iI y6)), (5, .int (iI (wO f))), (0, .ref s), (1, .ref k), (2, .int (iI i)), (3, .int (iI cnt)), (4, .int (iI f))]) [0, 2, 3, 4, 5, 6, 7, 8, 9] rfl ?_
                    exact ih9 (q + 1) (uI rn1 q.toNat 0) (uD rr1 q.toNat (flV (rwZ B n i f q))) (by omega) (row_step h1.1 h2 (by rw [rowN]; first | rw [if_pos (by assumption)] | rw [if_neg (by assumption)]) (by rw [rowD]; first | (exfalso; omega) | (rw [if_pos (by assumption), rwD]; first | rw [if_pos (by omega)] | rw [if_neg (by omega)]) | rw [if_neg (by assumption)])) (fun h9 => by rw [infC_s h1.1, if_neg (fun h8 => h8.elim (fun h7 => by have := h3 h9; omega) (fun h7 => by first | exact absurd h7 (by assumption) | omega))]) (by omega)
              · refine s_iload X dX0_fillRow_92 0 rfl ?_
                refine s_callIS X lk_X0_88 [] [0, 1, 2, 3, 4, 5] (wr := [oTk k pl af wh re x len i8 d8 y7 q, aI G i8 60 rn1, aF G d8 60 rr1, oBi s b, oBy b a n rd e, aB G a 3000 B]) rfl rfl (by decide) (by decide) (by decide) (c_X0_isFinite (kl K) G (rwZ B n i f q) (by omega)) dX0_fillRow_94 rfl rfl (Nat.le_of_ble_eq_true rfl) (by decide) (fun z24 w24 h24 => ?_)
                obtain ⟨rfl, rfl⟩ := h24
                show SW K G 10 0 0 97 [(9, .int (iI (rwZ B n i f q))), (8, .int (iI q)), (7, .int (iI y7)), (6, .int (iI y6)), (5, .int (iI (wO f))), (0, .ref s), (1, .ref k), (2, .int (iI i)), (3, .int (iI cnt)), (4, .int (iI f))] [.int (iI (tf (¬ eb (rwZ B n i f q) = 255)))] [oTk k pl af wh re x len i8 d8 y7 q, aI G i8 60 rn1, aF G d8 60 rr1, oBi s b, oBy b a n rd e, aB G a 3000 B]
                refine s_tf_ne X 103 dX0_fillRow_97 (by decide) (fun c97 => ?_) (fun c97 => ?_)
                · refine s_iload X dX0_fillRow_103 2 rfl ?_
                  refine s_if_eq X 136 dX0_fillRow_105 (by decide) (by omega) (fun c105 => ?_) (fun c105 => ?_)
                  · have hnr : ¬ rwR f := by intro h9; rw [tf_t h9] at hy7; omega
                    refine s_aload_n X dX0_fillRow_136 rfl 6 rfl ?_
                    refine s_iload X dX0_fillRow_137 0 rfl ?_
                    refine s_dconst0 X dX0_fillRow_139 ?_
                    refine s_callVV X lk_X0_114 [0, 1, 2] [3, 4, 5] (wr := [oBi s b, oBy b a n rd e, aB G a 3000 B]) rfl rfl (by decide) (by decide) (by decide) (c_X3_putInRow (kl K) G k x i8 d8 pl af wh len y7 q re rn1 rr1 (rwZ B n i f q) FP.dconst0 (by omega)) rfl rfl dX0_fillRow_140 rfl rfl (Nat.le_of_ble_eq_true rfl) (by decide) (fun w25 h25 => ?_)
                    obtain rfl := h25
                    show SW K G 10 0 0 143 [(9, .int (iI (rwZ B n i f q))), (8, .int (iI q)), (7, .int (iI y7)), (6, .int (iI y6)), (5, .int (iI (wO f))), (0, .ref s), (1, .ref k), (2, .int (iI i)), (3, .int (iI cnt)), (4, .int (iI f))] [] [oBi s b, oBy b a n rd e, aB G a 3000 B, oTk k pl af wh re x len i8 d8 y7 (q + 1), aI G i8 60 (uI rn1 q.toNat (rwZ B n i f q)), aF G d8 60 (uD rr1 q.toNat FP.dconst0)]
                    refine s_iinc (z := q + 1) X dX0_fillRow_143 1 rfl (by first | rfl | omega) [(8, .int (iI (q + 1))), (9, .int (iI (rwZ B n i f q))), (7, .int (iI y7)), (6, .int (iI y6)), (5, .int (iI (wO f))), (0, .ref s), (1, .ref k), (2, .int (iI i)), (3, .int (iI cnt)), (4, .int (iI f))] (by decide) rfl ?_
                    refine s_goto X 53 dX0_fillRow_146 (by decide) ?_
                    refine s_locs (lv' := [(8, .int (iI (q + 1))), (7, .int (iI y7)), (6, .int (iI y6)), (5, .int (iI (wO f))), (0, .ref s), (1, .ref k), (2, .int (iI i)), (3, .int (iI cnt)), (4, .int (iI f))]) [0, 2, 3, 4, 5, 6, 7, 8, 9] rfl ?_
                    exact ih9 (q + 1) (uI rn1 q.toNat (rwZ B n i f q)) (uD rr1 q.toNat FP.dconst0) (by omega) (row_step h1.1 h2 (by rw [rowN]; first | rw [if_pos (by assumption)] | rw [if_neg (by assumption)]) (by rw [rowD]; first | (exfalso; omega) | (rw [if_pos (by assumption), rwD]; first | rw [if_pos (by omega)] | rw [if_neg (by omega)]) | rw [if_neg (by assumption)])) (fun h9 => by rw [infC_s h1.1, if_neg (fun h8 => h8.elim (fun h7 => by have := h3 h9; omega) (fun h7 => by first | exact absurd h7 (by assumption) | omega))]) (by omega)
                  · have hyr : rwR f := by refine Decidable.byContradiction fun h9 => ?_; rw [tf_f h9] at hy7; omega
                    refine s_aload_n X dX0_fillRow_108 rfl 6 rfl ?_
                    refine s_iconst X dX0_fillRow_109 ?_
                    refine s_iload X dX0_fillRow_110 3 rfl ?_
                    refine s_if_eq X 123 dX0_fillRow_112 (by decide) (by omega) (fun c112 => ?_) (fun c112 => ?_)
                    · refine s_iload X dX0_fillRow_123 0 rfl ?_
                      refine s_iload X dX0_fillRow_125 9 rfl ?_
                      refine s_callDS X lk_X0_80 [] [0, 1, 2, 3, 4, 5] (wr := [oTk k pl af wh re x len i8 d8 y7 q, aI G i8 60 rn1, aF G d8 60 rr1, oBi s b, oBy b a n rd e, aB G a 3000 B]) rfl rfl (by decide) (by decide) (by decide) (c_X0_fixedValue (kl K) G (rwZ B n i f q) f (by omega) (by omega)) dX0_fillRow_127 rfl rfl (Nat.le_of_ble_eq_true rfl) (by decide) (fun z26 w26 h26 => ?_)
                      obtain ⟨rfl, rfl⟩ := h26
                      show SW K G 10 0 0 130 [(9, .int (iI (rwZ B n i f q))), (8, .int (iI q)), (7, .int (iI y7)), (6, .int (iI y6)), (5, .int (iI (wO f))), (0, .ref s), (1, .ref k), (2, .int (iI i)), (3, .int (iI cnt)), (4, .int (iI f))] [.double (fxV (rwZ B n i f q) f), .int (iI 0), .ref k] [oTk k pl af wh re x len i8 d8 y7 q, aI G i8 60 rn1, aF G d8 60 rr1, oBi s b, oBy b a n rd e, aB G a 3000 B]
                      refine s_callVV X lk_X0_114 [0, 1, 2] [3, 4, 5] (wr := [oBi s b, oBy b a n rd e, aB G a 3000 B]) rfl rfl (by decide) (by decide) (by decide) (c_X3_putInRow (kl K) G k x i8 d8 pl af wh len y7 q re rn1 rr1 0 (fxV (rwZ B n i f q) f) (by omega)) rfl rfl dX0_fillRow_130 rfl rfl (Nat.le_of_ble_eq_true rfl) (by decide) (fun w27 h27 => ?_)
                      obtain rfl := h27
                      show SW K G 10 0 0 133 [(9, .int (iI (rwZ B n i f q))), (8, .int (iI q)), (7, .int (iI y7)), (6, .int (iI y6)), (5, .int (iI (wO f))), (0, .ref s), (1, .ref k), (2, .int (iI i)), (3, .int (iI cnt)), (4, .int (iI f))] [] [oBi s b, oBy b a n rd e, aB G a 3000 B, oTk k pl af wh re x len i8 d8 y7 (q + 1), aI G i8 60 (uI rn1 q.toNat 0), aF G d8 60 (uD rr1 q.toNat (fxV (rwZ B n i f q) f))]
                      refine s_goto X 143 dX0_fillRow_133 (by decide) ?_
                      refine s_iinc (z := q + 1) X dX0_fillRow_143 1 rfl (by first | rfl | omega) [(8, .int (iI (q + 1))), (9, .int (iI (rwZ B n i f q))), (7, .int (iI y7)), (6, .int (iI y6)), (5, .int (iI (wO f))), (0, .ref s), (1, .ref k), (2, .int (iI i)), (3, .int (iI cnt)), (4, .int (iI f))] (by decide) rfl ?_
                      refine s_goto X 53 dX0_fillRow_146 (by decide) ?_
                      refine s_locs (lv' := [(8, .int (iI (q + 1))), (7, .int (iI y7)), (6, .int (iI y6)), (5, .int (iI (wO f))), (0, .ref s), (1, .ref k), (2, .int (iI i)), (3, .int (iI cnt)), (4, .int (iI f))]) [0, 2, 3, 4, 5, 6, 7, 8, 9] rfl ?_
                      exact ih9 (q + 1) (uI rn1 q.toNat 0) (uD rr1 q.toNat (fxV (rwZ B n i f q) f)) (by omega) (row_step h1.1 h2 (by rw [rowN]; first | rw [if_pos (by assumption)] | rw [if_neg (by assumption)]) (by rw [rowD]; first | (exfalso; omega) | (rw [if_pos (by assumption), rwD]; first | rw [if_pos (by omega)] | rw [if_neg (by omega)]) | rw [if_neg (by assumption)])) (fun h9 => by rw [infC_s h1.1, if_neg (fun h8 => h8.elim (fun h7 => by have := h3 h9; omega) (fun h7 => by first | exact absurd h7 (by assumption) | omega))]) (by omega)
                    · refine s_iload X dX0_fillRow_115 0 rfl ?_
                      refine s_callDS X lk_X0_92 [] [0, 1, 2, 3, 4, 5] (wr := [oTk k pl af wh re x len i8 d8 y7 q, aI G i8 60 rn1, aF G d8 60 rr1, oBi s b, oBy b a n rd e, aB G a 3000 B]) rfl rfl (by decide) (by decide) (by decide) (c_X0_floatValue (kl K) G (rwZ B n i f q) (by omega)) dX0_fillRow_117 rfl rfl (Nat.le_of_ble_eq_true rfl) (by decide) (fun z28 w28 h28 => ?_)
                      obtain ⟨rfl, rfl⟩ := h28
                      show SW K G 10 0 0 120 [(9, .int (iI (rwZ B n i f q))), (8, .int (iI q)), (7, .int (iI y7)), (6, .int (iI y6)), (5, .int (iI (wO f))), (0, .ref s), (1, .ref k), (2, .int (iI i)), (3, .int (iI cnt)), (4, .int (iI f))] [.double (flV (rwZ B n i f q)), .int (iI 0), .ref k] [oTk k pl af wh re x len i8 d8 y7 q, aI G i8 60 rn1, aF G d8 60 rr1, oBi s b, oBy b a n rd e, aB G a 3000 B]
                      refine s_goto X 130 dX0_fillRow_120 (by decide) ?_
                      refine s_callVV X lk_X0_114 [0, 1, 2] [3, 4, 5] (wr := [oBi s b, oBy b a n rd e, aB G a 3000 B]) rfl rfl (by decide) (by decide) (by decide) (c_X3_putInRow (kl K) G k x i8 d8 pl af wh len y7 q re rn1 rr1 0 (flV (rwZ B n i f q)) (by omega)) rfl rfl dX0_fillRow_130 rfl rfl (Nat.le_of_ble_eq_true rfl) (by decide) (fun w29 h29 => ?_)
                      obtain rfl := h29
                      show SW K G 10 0 0 133 [(9, .int (iI (rwZ B n i f q))), (8, .int (iI q)), (7, .int (iI y7)), (6, .int (iI y6)), (5, .int (iI (wO f))), (0, .ref s), (1, .ref k), (2, .int (iI i)), (3, .int (iI cnt)), (4, .int (iI f))] [] [oBi s b, oBy b a n rd e, aB G a 3000 B, oTk k pl af wh re x len i8 d8 y7 (q + 1), aI G i8 60 (uI rn1 q.toNat 0), aF G d8 60 (uD rr1 q.toNat (flV (rwZ B n i f q)))]
                      refine s_goto X 143 dX0_fillRow_133 (by decide) ?_
                      refine s_iinc (z := q + 1) X dX0_fillRow_143 1 rfl (by first | rfl | omega) [(8, .int (iI (q + 1))), (9, .int (iI (rwZ B n i f q))), (7, .int (iI y7)), (6, .int (iI y6)), (5, .int (iI (wO f))), (0, .ref s), (1, .ref k), (2, .int (iI i)), (3, .int (iI cnt)), (4, .int (iI f))] (by decide) rfl ?_
                      refine s_goto X 53 dX0_fillRow_146 (by decide) ?_
                      refine s_locs (lv' := [(8, .int (iI (q + 1))), (7, .int (iI y7)), (6, .int (iI y6)), (5, .int (iI (wO f))), (0, .ref s), (1, .ref k), (2, .int (iI i)), (3, .int (iI cnt)), (4, .int (iI f))]) [0, 2, 3, 4, 5, 6, 7, 8, 9] rfl ?_
                      exact ih9 (q + 1) (uI rn1 q.toNat 0) (uD rr1 q.toNat (flV (rwZ B n i f q))) (by omega) (row_step h1.1 h2 (by rw [rowN]; first | rw [if_pos (by assumption)] | rw [if_neg (by assumption)]) (by rw [rowD]; first | (exfalso; omega) | (rw [if_pos (by assumption), rwD]; first | rw [if_pos (by omega)] | rw [if_neg (by omega)]) | rw [if_neg (by assumption)])) (fun h9 => by rw [infC_s h1.1, if_neg (fun h8 => h8.elim (fun h7 => by have := h3 h9; omega) (fun h7 => by first | exact absurd h7 (by assumption) | omega))]) (by omega)
                · have hff : f % 128 = 48 := by omega
                  have hE : eb (rwZ B n i f q) = 255 := Decidable.of_not_not (by assumption)
                  refine s_bipush (-6) X dX0_fillRow_100 (by decide) ?_
                  refine s_perm (ws' := [oBi s b, oBy b a n rd e, aB G a 3000 B, oTk k pl af wh re x len i8 d8 y7 q, aI G i8 60 rn1, aF G d8 60 rr1]) [3, 4, 5, 0, 1, 2] (by decide) rfl rfl ?_
                  refine s_iret X Y dX0_fillRow_102 (rfl) ?_
                  refine ⟨wh, len, y7, q, rn1, rr1, ?_, rfl, ?_, ?_⟩
                  · (first | (exfalso; omega) | (rw [frA, if_pos ⟨hff, infC_hit ⟨h1.1, by assumption⟩ hE⟩]))
                  · (first | (exfalso; omega) | (intro h; exact absurd h (by decide)))
                  · (first | (exfalso; omega) | (exact hz7))
      refine s_cast (st' := []) (ws' := [oBi s b, oBy b a n rd e, aB G a 3000 B, oTk k pl af wh re x len i8 d8 y7 0, aI G i8 60 rn, aF G d8 60 rr]) (lv' := [(8, .int (iI 0)), (7, .int (iI y7)), (6, .int (iI y6)), (5, .int (iI (wO f))), (0, .ref s), (1, .ref k), (2, .int (iI i)), (3, .int (iI cnt)), (4, .int (iI f))]) (by first | rfl | rw [h0]) (by first | rfl | rw [h0]) (by first | rfl | rw [h0]) ?_
      exact lp _ 0 rn rr (by omega) (fun j _ _ => by omega) (fun _ => rfl) (Nat.lt_succ_self _)
    refine s_iload X dX0_fillRow_24 0 rfl ?_
    refine s_if_ne X 37 dX0_fillRow_26 (by decide) (by omega) (fun c26 => ?_) (fun c26 => ?_)
    · refine s_iconst X dX0_fillRow_37 ?_
      refine s_goto X 42 dX0_fillRow_38 (by decide) ?_
      exact j42 1 (by first | exact (tf_t (by omega)).symm | exact (tf_f (by omega)).symm) (by omega)
    · refine s_iload X dX0_fillRow_29 6 rfl ?_
      refine s_bipush 31 X dX0_fillRow_31 (by decide) ?_
      refine s_iand (z := f % 32) X dX0_fillRow_33 (by exact iand31 _) ?_
      refine s_if_eq X 41 dX0_fillRow_34 (by decide) (by omega) (fun c34 => ?_) (fun c34 => ?_)
      · refine s_iconst X dX0_fillRow_41 ?_
        exact j42 0 (by first | exact (tf_t (by omega)).symm | exact (tf_f (by omega)).symm) (by omega)
      · refine s_iconst X dX0_fillRow_37 ?_
        refine s_goto X 42 dX0_fillRow_38 (by decide) ?_
        exact j42 1 (by first | exact (tf_t (by omega)).symm | exact (tf_f (by omega)).symm) (by omega)
  refine s_icmp_ne X 21 dX0_fillRow_14 (by decide) (by omega) (fun c14 => ?_) (fun c14 => ?_)
  · refine s_iconst X dX0_fillRow_21 ?_
    exact j22 0 (by omega)
  · refine s_iconst X dX0_fillRow_17 ?_
    refine s_goto X 22 dX0_fillRow_18 (by decide) ?_
    exact j22 1 (by omega)
