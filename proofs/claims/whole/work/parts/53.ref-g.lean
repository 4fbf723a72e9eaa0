set_option maxRecDepth 100000 in
set_option maxHeartbeats 4000000 in
theorem c_X6_escape (l : Launch) (G : GX) (o : Nat) (a : Nat) (po : Nat) (xt : Nat) (xi : Nat) (xd : Nat) (yt : Nat) (yi : Nat) (yd : Nat) (th : Int) (n : Int) (e : Int) (dn : Int) (at9 : Int) (dp : Int) (kd : Int) (wh : Int) (pl : Int) (base : Int) (sg : Int) (row : Int) (ror : Int) (np : Int) (nw : Int) (nb : Int) (ns : Int) (nrw : Int) (nir : Int) (inf9 : Int) (re : UInt64) (nr : UInt64) (B : Nat → Nat) (t : Nat → Nat) (ol : List Nat) (hn : 0 ≤ n ∧ n ≤ 3000) (hBb : ∀ j, B j < 256) (hap : 0 ≤ at9 ∧ at9 < n) (hty : TY t ns ol) (hns : 0 ≤ ns ∧ ns ≤ 20000) : CtV l G yX6_escape cX6_escape 4 none ({ frames := 1, cells := 0, slots := 0, locals := 21 } : Room) [.ref o] [oMo o th n a e dn at9 dp po kd wh re pl base sg xt row ror xi xd np nw nr nb ns yt nrw nir yi yd inf9, aB G a 3000 B, aB G yt 400 t] (fun (w9 : va_W) => ∃ (at2 : Int), ∃ (ns2 : Int), ∃ (t2 : Nat → Nat), w9 = [oMo o th n a e dn at2 dp po kd wh re pl base sg xt row ror xi xd np nw nr nb ns2 yt nrw nir yi yd inf9, aB G a 3000 B, aB G yt 400 t2] ∧ (at2 = at9 + peW B n at9) ∧ (TY t2 ns2 (ol ++ peO B n at9)) ∧ (ns ≤ ns2 ∧ ns2 ≤ ns + 1)) := by
  intro sz
  refine met_of (fun wc sz => va_Qv _ (posW G wc sz) (va_A wc sz)) (by decide) [(0, .ref o)] rfl (Nat.le_of_ble_eq_true rfl) (fun K hK9 hnm X Y => ?_)
  subst hK9
  replace Y : RV K G none 0 0 _ := Y
  refine s_aload_n X dX6_escape_0 rfl 0 rfl ?_
  refine s_aload_n X dX6_escape_1 rfl 0 rfl ?_
  refine s_get X dX6_escape_2 fl_X6_102 0 rfl rfl ?_
  refine s_callIV X lk_X6_63 [0, 1] [2] (wr := [aB G yt 400 t]) rfl rfl (by decide) (by decide) (by decide) (c_X6_byteAt (kl K) G o a po xt xi xd yt yi yd th n e dn at9 dp kd wh pl base sg row ror np nw nb ns nrw nir inf9 re nr B at9 (by assumption) (by assumption) (by omega)) rfl rfl dX6_escape_5 rfl rfl (Nat.le_of_ble_eq_true rfl) (by decide) (fun z1 w1 h1 => ?_)
  obtain ⟨rfl, rfl⟩ := h1
  show SW K G 4 0 0 8 [(0, .ref o)] [.int (iI (bA B n at9))] [aB G yt 400 t, oMo o th n a e dn at9 dp po kd wh re pl base sg xt row ror xi xd np nw nr nb ns yt nrw nir yi yd inf9, aB G a 3000 B]
  have q2 := bA_C n at9 (by assumption : ∀ j, B j < 256)
  have d0 := dg8C (bA B n at9)
  refine s_istore_n X dX6_escape_8 rfl [(1, .int (iI (bA B n at9))), (0, .ref o)] (by decide) rfl ?_
  refine s_aload_n X dX6_escape_9 rfl 1 rfl ?_
  refine s_dup X dX6_escape_10 rfl ?_
  refine s_get X dX6_escape_11 fl_X6_102 1 rfl rfl ?_
  refine s_iconst X dX6_escape_14 ?_
  refine s_iadd X dX6_escape_15 ?_
  refine s_put X dX6_escape_16 fl_X6_102 tyX6_ok nmX6 1 rfl rfl (rfl) (rfl) (Nat.le_of_ble_eq_true rfl) [aB G yt 400 t, oMo o th n a e dn (at9 + 1) dp po kd wh re pl base sg xt row ror xi xd np nw nr nb ns yt nrw nir yi yd inf9, aB G a 3000 B] rfl ?_
  have j114 : ∀  (h8 : 8 ≤ dg (bA B n at9)), SW K G 4 0 0 114 [(1, .int (iI (bA B n at9))), (0, .ref o)] [] [aB G yt 400 t, oMo o th n a e dn (at9 + 1) dp po kd wh re pl base sg xt row ror xi xd np nw nr nb ns yt nrw nir yi yd inf9, aB G a 3000 B] := by
    intro h8
    refine s_iload_n X dX6_escape_114 rfl 0 rfl ?_
    refine s_bipush 13 X dX6_escape_115 (by decide) ?_
    refine s_icmp_ne X 153 dX6_escape_117 (by decide) (by omega) (fun c117 => ?_) (fun c117 => ?_)
    · refine s_iload_n X dX6_escape_153 rfl 0 rfl ?_
      refine s_bipush 10 X dX6_escape_154 (by decide) ?_
      refine s_icmp_eq X 219 dX6_escape_156 (by decide) (by omega) (fun c156 => ?_) (fun c156 => ?_)
      · refine s_perm (ws' := [oMo o th n a e dn (at9 + 1) dp po kd wh re pl base sg xt row ror xi xd np nw nr nb ns yt nrw nir yi yd inf9, aB G a 3000 B, aB G yt 400 t]) [1, 2, 0] (by decide) rfl rfl ?_
        refine s_vret X Y dX6_escape_219 ?_
        refine ⟨(at9 + 1), ns, t, rfl, ?_, ?_, ?_⟩
        · (first | (exfalso; omega) | (rw [(pe_lf (by assumption)).1]))
        · (first | (exfalso; omega) | (rw [(pe_lf (by assumption)).2, List.append_nil]; exact hty))
        · (first | (exfalso; omega) | (omega))
      · have j216 : ∀ (y : Int) (hy : y = es (bA B n at9)), SW K G 4 0 0 216 [(1, .int (iI (bA B n at9))), (0, .ref o)] [.int (iI y), .ref o] [aB G yt 400 t, oMo o th n a e dn (at9 + 1) dp po kd wh re pl base sg xt row ror xi xd np nw nr nb ns yt nrw nir yi yd inf9, aB G a 3000 B] := by
          intro y hy
          refine s_callVV X lk_X6_122 [1, 0] [2] (wr := [aB G a 3000 B]) rfl rfl (by decide) (by decide) (by decide) (c_X6_putSign (kl K) G o a po xt xi xd yt yi yd th n e dn (at9 + 1) dp kd wh pl base sg row ror np nw nb ns nrw nir inf9 re nr t y (by omega)) rfl rfl dX6_escape_216 rfl rfl (Nat.le_of_ble_eq_true rfl) (by decide) (fun w3 h3 => ?_)
          obtain rfl := h3
          show SW K G 4 0 0 219 [(1, .int (iI (bA B n at9))), (0, .ref o)] [] [aB G a 3000 B, oMo o th n a e dn (at9 + 1) dp po kd wh re pl base sg xt row ror xi xd np nw nr nb (ns + 1) yt nrw nir yi yd inf9, aB G yt 400 (putY t ns y)]
          refine s_perm (ws' := [oMo o th n a e dn (at9 + 1) dp po kd wh re pl base sg xt row ror xi xd np nw nr nb (ns + 1) yt nrw nir yi yd inf9, aB G a 3000 B, aB G yt 400 (putY t ns y)]) [1, 0, 2] (by decide) rfl rfl ?_
          refine s_vret X Y dX6_escape_219 ?_
          refine ⟨(at9 + 1), (ns + 1), (putY t ns y), rfl, ?_, ?_, ?_⟩
          · (first | (exfalso; omega) | (rw [(pe_es (by assumption) (by assumption) h8).1]))
          · (first | (exfalso; omega) | (rw [(pe_es (by assumption) (by assumption) h8).2, ← hy]; exact TY_put hty))
          · (first | (exfalso; omega) | (omega))
        refine s_aload_n X dX6_escape_159 rfl 1 rfl ?_
        refine s_iload_n X dX6_escape_160 rfl 0 rfl ?_
        refine s_bipush 110 X dX6_escape_161 (by decide) ?_
        refine s_icmp_ne X 171 dX6_escape_163 (by decide) (by omega) (fun c163 => ?_) (fun c163 => ?_)
        · refine s_iload_n X dX6_escape_171 rfl 0 rfl ?_
          refine s_bipush 114 X dX6_escape_172 (by decide) ?_
          refine s_icmp_ne X 182 dX6_escape_174 (by decide) (by omega) (fun c174 => ?_) (fun c174 => ?_)
          · refine s_iload_n X dX6_escape_182 rfl 0 rfl ?_
            refine s_bipush 116 X dX6_escape_183 (by decide) ?_
            refine s_icmp_ne X 193 dX6_escape_185 (by decide) (by omega) (fun c185 => ?_) (fun c185 => ?_)
            · refine s_iload_n X dX6_escape_193 rfl 0 rfl ?_
              refine s_bipush 98 X dX6_escape_194 (by decide) ?_
              refine s_icmp_ne X 204 dX6_escape_196 (by decide) (by omega) (fun c196 => ?_) (fun c196 => ?_)
              · refine s_iload_n X dX6_escape_204 rfl 0 rfl ?_
                refine s_bipush 102 X dX6_escape_205 (by decide) ?_
                refine s_icmp_ne X 215 dX6_escape_207 (by decide) (by omega) (fun c207 => ?_) (fun c207 => ?_)
                · refine s_iload_n X dX6_escape_215 rfl 0 rfl ?_
                  exact j216 (bA B n at9) (by unfold es; (repeat' split) <;> omega)
                · refine s_bipush 12 X dX6_escape_210 (by decide) ?_
                  refine s_goto X 216 dX6_escape_212 (by decide) ?_
                  exact j216 12 (by unfold es; (repeat' split) <;> omega)
              · refine s_bipush 8 X dX6_escape_199 (by decide) ?_
                refine s_goto X 216 dX6_escape_201 (by decide) ?_
                exact j216 8 (by unfold es; (repeat' split) <;> omega)
            · refine s_bipush 9 X dX6_escape_188 (by decide) ?_
              refine s_goto X 216 dX6_escape_190 (by decide) ?_
              exact j216 9 (by unfold es; (repeat' split) <;> omega)
          · refine s_bipush 13 X dX6_escape_177 (by decide) ?_
            refine s_goto X 216 dX6_escape_179 (by decide) ?_
            exact j216 13 (by unfold es; (repeat' split) <;> omega)
        · refine s_bipush 10 X dX6_escape_166 (by decide) ?_
          refine s_goto X 216 dX6_escape_168 (by decide) ?_
          exact j216 10 (by unfold es; (repeat' split) <;> omega)
    · refine s_aload_n X dX6_escape_120 rfl 1 rfl ?_
      refine s_aload_n X dX6_escape_121 rfl 1 rfl ?_
      refine s_aload_n X dX6_escape_122 rfl 1 rfl ?_
      refine s_get X dX6_escape_123 fl_X6_102 1 rfl rfl ?_
      refine s_callIV X lk_X6_63 [1, 2] [0] (wr := [aB G yt 400 t]) rfl rfl (by decide) (by decide) (by decide) (c_X6_byteAt (kl K) G o a po xt xi xd yt yi yd th n e dn (at9 + 1) dp kd wh pl base sg row ror np nw nb ns nrw nir inf9 re nr B (at9 + 1) (by assumption) (by assumption) (by omega)) rfl rfl dX6_escape_126 rfl rfl (Nat.le_of_ble_eq_true rfl) (by decide) (fun z4 w4 h4 => ?_)
      obtain ⟨rfl, rfl⟩ := h4
      show SW K G 4 0 0 129 [(1, .int (iI (bA B n at9))), (0, .ref o)] [.int (iI (bA B n (at9 + 1))), .ref o] [aB G yt 400 t, oMo o th n a e dn (at9 + 1) dp po kd wh re pl base sg xt row ror xi xd np nw nr nb ns yt nrw nir yi yd inf9, aB G a 3000 B]
      have q5 := bA_C n (at9 + 1) (by assumption : ∀ j, B j < 256)
      refine s_bipush 10 X dX6_escape_129 (by decide) ?_
      refine s_icmp_ne X 143 dX6_escape_131 (by decide) (by omega) (fun c131 => ?_) (fun c131 => ?_)
      · refine s_aload_n X dX6_escape_143 rfl 1 rfl ?_
        refine s_get X dX6_escape_144 fl_X6_102 1 rfl rfl ?_
        refine s_put X dX6_escape_147 fl_X6_102 tyX6_ok nmX6 1 rfl rfl (rfl) (rfl) (Nat.le_of_ble_eq_true rfl) [aB G yt 400 t, oMo o th n a e dn (at9 + 1) dp po kd wh re pl base sg xt row ror xi xd np nw nr nb ns yt nrw nir yi yd inf9, aB G a 3000 B] rfl ?_
        refine s_goto X 219 dX6_escape_150 (by decide) ?_
        refine s_perm (ws' := [oMo o th n a e dn (at9 + 1) dp po kd wh re pl base sg xt row ror xi xd np nw nr nb ns yt nrw nir yi yd inf9, aB G a 3000 B, aB G yt 400 t]) [1, 2, 0] (by decide) rfl rfl ?_
        refine s_vret X Y dX6_escape_219 ?_
        refine ⟨(at9 + 1), ns, t, rfl, ?_, ?_, ?_⟩
        · (first | (exfalso; omega) | (first | (rw [(pe_cr (by assumption) (by assumption)).1]; done) | (rw [(pe_cr (by assumption) (by assumption)).1]; omega)))
        · (first | (exfalso; omega) | (rw [(pe_cr (by assumption) (by assumption)).2, List.append_nil]; exact hty))
        · (first | (exfalso; omega) | (omega))
      · refine s_aload_n X dX6_escape_134 rfl 1 rfl ?_
        refine s_get X dX6_escape_135 fl_X6_102 1 rfl rfl ?_
        refine s_iconst X dX6_escape_138 ?_
        refine s_iadd X dX6_escape_139 ?_
        refine s_goto X 147 dX6_escape_140 (by decide) ?_
        refine s_put X dX6_escape_147 fl_X6_102 tyX6_ok nmX6 1 rfl rfl (rfl) (rfl) (Nat.le_of_ble_eq_true rfl) [aB G yt 400 t, oMo o th n a e dn ((at9 + 1) + 1) dp po kd wh re pl base sg xt row ror xi xd np nw nr nb ns yt nrw nir yi yd inf9, aB G a 3000 B] rfl ?_
        refine s_goto X 219 dX6_escape_150 (by decide) ?_
        refine s_perm (ws' := [oMo o th n a e dn ((at9 + 1) + 1) dp po kd wh re pl base sg xt row ror xi xd np nw nr nb ns yt nrw nir yi yd inf9, aB G a 3000 B, aB G yt 400 t]) [1, 2, 0] (by decide) rfl rfl ?_
        refine s_vret X Y dX6_escape_219 ?_
        refine ⟨((at9 + 1) + 1), ns, t, rfl, ?_, ?_, ?_⟩
        · (first | (exfalso; omega) | (first | (rw [(pe_crlf (by assumption) (by assumption)).1]; done) | (rw [(pe_crlf (by assumption) (by assumption)).1]; omega)))
        · (first | (exfalso; omega) | (rw [(pe_crlf (by assumption) (by assumption)).2, List.append_nil]; exact hty))
        · (first | (exfalso; omega) | (omega))
  refine s_iload_n X dX6_escape_19 rfl 0 rfl ?_
  refine s_bipush 48 X dX6_escape_20 (by decide) ?_
  refine s_icmp_lt X 114 dX6_escape_22 (by decide) (by omega) (fun c22 => ?_) (fun c22 => ?_)
  · exact j114  (by omega)
  · refine s_iload_n X dX6_escape_25 rfl 0 rfl ?_
    refine s_bipush 55 X dX6_escape_26 (by decide) ?_
    refine s_icmp_gt X 114 dX6_escape_28 (by decide) (by omega) (fun c28 => ?_) (fun c28 => ?_)
    · exact j114  (by omega)
    · refine s_iload_n X dX6_escape_31 rfl 0 rfl ?_
      refine s_bipush 48 X dX6_escape_32 (by decide) ?_
      refine s_isub X dX6_escape_34 ?_
      refine s_istore_n X dX6_escape_35 rfl [(2, .int (iI ((bA B n at9) - 48))), (1, .int (iI (bA B n at9))), (0, .ref o)] (by decide) rfl ?_
      refine s_iconst X dX6_escape_36 ?_
      refine s_istore_n X dX6_escape_37 rfl [(3, .int (iI 1)), (2, .int (iI ((bA B n at9) - 48))), (1, .int (iI (bA B n at9))), (0, .ref o)] (by decide) rfl ?_
      have lp : ∀ (m9 : Nat) (v : Int) (q : Int) (i : Int) (h1 : 1 ≤ q ∧ q ≤ 3) (hi : i = at9 + q) (h2 : (q = 1 ∧ v = dg (bA B n at9)) ∨ (q = 2 ∧ v = dg (bA B n at9) * 8 + dg (bA B n (at9 + 1))) ∨ (q = 3 ∧ v = (dg (bA B n at9) * 8 + dg (bA B n (at9 + 1))) * 8 + dg (bA B n (at9 + 2)))) (h3 : dg (bA B n at9) < 8 ∧ (q = 1 ∨ dg (bA B n (at9 + 1)) < 8) ∧ (q ≤ 2 ∨ dg (bA B n (at9 + 2)) < 8)), (3 - q).toNat < m9 → SW K G 4 0 0 38 [(2, .int (iI v)), (3, .int (iI q)), (1, .int (iI (bA B n at9))), (0, .ref o)] [] [oMo o th n a e dn i dp po kd wh re pl base sg xt row ror xi xd np nw nr nb ns yt nrw nir yi yd inf9, aB G a 3000 B, aB G yt 400 t] := by
        intro m9
        induction m9 with
        | zero => intro v q i h1 hi h2 h3 hm9; exact absurd hm9 (Nat.not_lt_zero _)
        | succ m9 ih9 =>
          intro v q i h1 hi h2 h3 hm9
          refine s_iload_n X dX6_escape_38 rfl 1 rfl ?_
          refine s_iconst X dX6_escape_39 ?_
          refine s_icmp_ge X 102 dX6_escape_40 (by decide) (by omega) (fun c40 => ?_) (fun c40 => ?_)
          · have hq9 : q = oc B n at9 := oc_in h1 h3 (by omega)
            refine s_aload_n X dX6_escape_102 rfl 3 rfl ?_
            refine s_iload_n X dX6_escape_103 rfl 0 rfl ?_
            refine s_sipush 255 X dX6_escape_104 (by decide) ?_
            refine s_iand (z := v % 256) X dX6_escape_107 (by exact iand255 _) ?_
            refine s_callVV X lk_X6_122 [0, 2] [1] (wr := [aB G a 3000 B]) rfl rfl (by decide) (by decide) (by decide) (c_X6_putSign (kl K) G o a po xt xi xd yt yi yd th n e dn i dp kd wh pl base sg row ror np nw nb ns nrw nir inf9 re nr t (v % 256) (by omega)) rfl rfl dX6_escape_108 rfl rfl (Nat.le_of_ble_eq_true rfl) (by decide) (fun w6 h6 => ?_)
            obtain rfl := h6
            show SW K G 4 0 0 111 [(2, .int (iI v)), (3, .int (iI q)), (1, .int (iI (bA B n at9))), (0, .ref o)] [] [aB G a 3000 B, oMo o th n a e dn i dp po kd wh re pl base sg xt row ror xi xd np nw nr nb (ns + 1) yt nrw nir yi yd inf9, aB G yt 400 (putY t ns (v % 256))]
            refine s_goto X 219 dX6_escape_111 (by decide) ?_
            refine s_perm (ws' := [oMo o th n a e dn i dp po kd wh re pl base sg xt row ror xi xd np nw nr nb (ns + 1) yt nrw nir yi yd inf9, aB G a 3000 B, aB G yt 400 (putY t ns (v % 256))]) [1, 0, 2] (by decide) rfl rfl ?_
            refine s_vret X Y dX6_escape_219 ?_
            refine ⟨i, (ns + 1), (putY t ns (v % 256)), rfl, ?_, ?_, ?_⟩
            · (first | (exfalso; omega) | (rw [(pe_oc (by omega) (by omega) hq9 (by omega)).1]; omega))
            · (first | (exfalso; omega) | (rw [(pe_oc (by omega) (by omega) hq9 (by omega)).2, ov_of h2, ← by8_mod]; exact TY_put hty))
            · (first | (exfalso; omega) | (omega))
          · refine s_aload_n X dX6_escape_43 rfl 3 rfl ?_
            refine s_aload_n X dX6_escape_44 rfl 3 rfl ?_
            refine s_get X dX6_escape_45 fl_X6_102 0 rfl rfl ?_
            refine s_callIV X lk_X6_63 [0, 1] [2] (wr := [aB G yt 400 t]) rfl rfl (by decide) (by decide) (by decide) (c_X6_byteAt (kl K) G o a po xt xi xd yt yi yd th n e dn i dp kd wh pl base sg row ror np nw nb ns nrw nir inf9 re nr B i (by assumption) (by assumption) (by omega)) rfl rfl dX6_escape_48 rfl rfl (Nat.le_of_ble_eq_true rfl) (by decide) (fun z7 w7 h7 => ?_)
            obtain ⟨rfl, rfl⟩ := h7
            show SW K G 4 0 0 51 [(2, .int (iI v)), (3, .int (iI q)), (1, .int (iI (bA B n at9))), (0, .ref o)] [.int (iI (bA B n i))] [aB G yt 400 t, oMo o th n a e dn i dp po kd wh re pl base sg xt row ror xi xd np nw nr nb ns yt nrw nir yi yd inf9, aB G a 3000 B]
            have q8 := bA_C n i (by assumption : ∀ j, B j < 256)
            have e9_a : bA B n i = bA B n (at9 + q) := by rw [show i = at9 + q by omega]
            have d9_a := dg8C (bA B n (at9 + q))
            refine s_bipush 48 X dX6_escape_51 (by decide) ?_
            refine s_icmp_lt X 102 dX6_escape_53 (by decide) (by omega) (fun c53 => ?_) (fun c53 => ?_)
            · have hq9 : q = oc B n at9 := oc_in h1 h3 (by omega)
              refine s_aload_n X dX6_escape_102 rfl 3 rfl ?_
              refine s_iload_n X dX6_escape_103 rfl 0 rfl ?_
              refine s_sipush 255 X dX6_escape_104 (by decide) ?_
              refine s_iand (z := v % 256) X dX6_escape_107 (by exact iand255 _) ?_
              refine s_callVV X lk_X6_122 [1, 0] [2] (wr := [aB G a 3000 B]) rfl rfl (by decide) (by decide) (by decide) (c_X6_putSign (kl K) G o a po xt xi xd yt yi yd th n e dn i dp kd wh pl base sg row ror np nw nb ns nrw nir inf9 re nr t (v % 256) (by omega)) rfl rfl dX6_escape_108 rfl rfl (Nat.le_of_ble_eq_true rfl) (by decide) (fun w9 h9 => ?_)
              obtain rfl := h9
              show SW K G 4 0 0 111 [(2, .int (iI v)), (3, .int (iI q)), (1, .int (iI (bA B n at9))), (0, .ref o)] [] [aB G a 3000 B, oMo o th n a e dn i dp po kd wh re pl base sg xt row ror xi xd np nw nr nb (ns + 1) yt nrw nir yi yd inf9, aB G yt 400 (putY t ns (v % 256))]
              refine s_goto X 219 dX6_escape_111 (by decide) ?_
              refine s_perm (ws' := [oMo o th n a e dn i dp po kd wh re pl base sg xt row ror xi xd np nw nr nb (ns + 1) yt nrw nir yi yd inf9, aB G a 3000 B, aB G yt 400 (putY t ns (v % 256))]) [1, 0, 2] (by decide) rfl rfl ?_
              refine s_vret X Y dX6_escape_219 ?_
              refine ⟨i, (ns + 1), (putY t ns (v % 256)), rfl, ?_, ?_, ?_⟩
              · (first | (exfalso; omega) | (rw [(pe_oc (by omega) (by omega) hq9 (by omega)).1]; omega))
              · (first | (exfalso; omega) | (rw [(pe_oc (by omega) (by omega) hq9 (by omega)).2, ov_of h2, ← by8_mod]; exact TY_put hty))
              · (first | (exfalso; omega) | (omega))
            · refine s_aload_n X dX6_escape_56 rfl 3 rfl ?_
              refine s_aload_n X dX6_escape_57 rfl 3 rfl ?_
              refine s_get X dX6_escape_58 fl_X6_102 1 rfl rfl ?_
              refine s_callIV X lk_X6_63 [1, 2] [0] (wr := [aB G yt 400 t]) rfl rfl (by decide) (by decide) (by decide) (c_X6_byteAt (kl K) G o a po xt xi xd yt yi yd th n e dn i dp kd wh pl base sg row ror np nw nb ns nrw nir inf9 re nr B i (by assumption) (by assumption) (by omega)) rfl rfl dX6_escape_61 rfl rfl (Nat.le_of_ble_eq_true rfl) (by decide) (fun z10 w10 h10 => ?_)
              obtain ⟨rfl, rfl⟩ := h10
              show SW K G 4 0 0 64 [(2, .int (iI v)), (3, .int (iI q)), (1, .int (iI (bA B n at9))), (0, .ref o)] [.int (iI (bA B n i))] [aB G yt 400 t, oMo o th n a e dn i dp po kd wh re pl base sg xt row ror xi xd np nw nr nb ns yt nrw nir yi yd inf9, aB G a 3000 B]
              have q11 := bA_C n i (by assumption : ∀ j, B j < 256)
              refine s_bipush 55 X dX6_escape_64 (by decide) ?_
              refine s_icmp_gt X 102 dX6_escape_66 (by decide) (by omega) (fun c66 => ?_) (fun c66 => ?_)
              · have hq9 : q = oc B n at9 := oc_in h1 h3 (by omega)
                refine s_aload_n X dX6_escape_102 rfl 3 rfl ?_
                refine s_iload_n X dX6_escape_103 rfl 0 rfl ?_
                refine s_sipush 255 X dX6_escape_104 (by decide) ?_
                refine s_iand (z := v % 256) X dX6_escape_107 (by exact iand255 _) ?_
                refine s_callVV X lk_X6_122 [1, 0] [2] (wr := [aB G a 3000 B]) rfl rfl (by decide) (by decide) (by decide) (c_X6_putSign (kl K) G o a po xt xi xd yt yi yd th n e dn i dp kd wh pl base sg row ror np nw nb ns nrw nir inf9 re nr t (v % 256) (by omega)) rfl rfl dX6_escape_108 rfl rfl (Nat.le_of_ble_eq_true rfl) (by decide) (fun w12 h12 => ?_)
                obtain rfl := h12
                show SW K G 4 0 0 111 [(2, .int (iI v)), (3, .int (iI q)), (1, .int (iI (bA B n at9))), (0, .ref o)] [] [aB G a 3000 B, oMo o th n a e dn i dp po kd wh re pl base sg xt row ror xi xd np nw nr nb (ns + 1) yt nrw nir yi yd inf9, aB G yt 400 (putY t ns (v % 256))]
                refine s_goto X 219 dX6_escape_111 (by decide) ?_
                refine s_perm (ws' := [oMo o th n a e dn i dp po kd wh re pl base sg xt row ror xi xd np nw nr nb (ns + 1) yt nrw nir yi yd inf9, aB G a 3000 B, aB G yt 400 (putY t ns (v % 256))]) [1, 0, 2] (by decide) rfl rfl ?_
                refine s_vret X Y dX6_escape_219 ?_
                refine ⟨i, (ns + 1), (putY t ns (v % 256)), rfl, ?_, ?_, ?_⟩
                · (first | (exfalso; omega) | (rw [(pe_oc (by omega) (by omega) hq9 (by omega)).1]; omega))
                · (first | (exfalso; omega) | (rw [(pe_oc (by omega) (by omega) hq9 (by omega)).2, ov_of h2, ← by8_mod]; exact TY_put hty))
                · (first | (exfalso; omega) | (omega))
              · refine s_bipush 8 X dX6_escape_69 (by decide) ?_
                refine s_iload_n X dX6_escape_71 rfl 0 rfl ?_
                refine s_imul X dX6_escape_72 ?_
                refine s_aload_n X dX6_escape_73 rfl 3 rfl ?_
                refine s_aload_n X dX6_escape_74 rfl 3 rfl ?_
                refine s_get X dX6_escape_75 fl_X6_102 1 rfl rfl ?_
                refine s_callIV X lk_X6_63 [1, 2] [0] (wr := [aB G yt 400 t]) rfl rfl (by decide) (by decide) (by decide) (c_X6_byteAt (kl K) G o a po xt xi xd yt yi yd th n e dn i dp kd wh pl base sg row ror np nw nb ns nrw nir inf9 re nr B i (by assumption) (by assumption) (by omega)) rfl rfl dX6_escape_78 rfl rfl (Nat.le_of_ble_eq_true rfl) (by decide) (fun z13 w13 h13 => ?_)
                obtain ⟨rfl, rfl⟩ := h13
                show SW K G 4 0 0 81 [(2, .int (iI v)), (3, .int (iI q)), (1, .int (iI (bA B n at9))), (0, .ref o)] [.int (iI (bA B n i)), .int (iI (8 * v))] [aB G yt 400 t, oMo o th n a e dn i dp po kd wh re pl base sg xt row ror xi xd np nw nr nb ns yt nrw nir yi yd inf9, aB G a 3000 B]
                have q14 := bA_C n i (by assumption : ∀ j, B j < 256)
                refine s_iadd X dX6_escape_81 ?_
                refine s_bipush 48 X dX6_escape_82 (by decide) ?_
                refine s_isub X dX6_escape_84 ?_
                refine s_istore_n X dX6_escape_85 rfl [(2, .int (iI (((8 * v) + (bA B n i)) - 48))), (3, .int (iI q)), (1, .int (iI (bA B n at9))), (0, .ref o)] (by decide) rfl ?_
                refine s_aload_n X dX6_escape_86 rfl 3 rfl ?_
                refine s_dup X dX6_escape_87 rfl ?_
                refine s_get X dX6_escape_88 fl_X6_102 1 rfl rfl ?_
                refine s_iconst X dX6_escape_91 ?_
                refine s_iadd X dX6_escape_92 ?_
                refine s_put X dX6_escape_93 fl_X6_102 tyX6_ok nmX6 1 rfl rfl (rfl) (rfl) (Nat.le_of_ble_eq_true rfl) [aB G yt 400 t, oMo o th n a e dn (i + 1) dp po kd wh re pl base sg xt row ror xi xd np nw nr nb ns yt nrw nir yi yd inf9, aB G a 3000 B] rfl ?_
                refine s_iinc (z := q + 1) X dX6_escape_96 1 rfl (by first | rfl | omega) [(3, .int (iI (q + 1))), (2, .int (iI (((8 * v) + (bA B n i)) - 48))), (1, .int (iI (bA B n at9))), (0, .ref o)] (by decide) rfl ?_
                refine s_goto X 38 dX6_escape_99 (by decide) ?_
                refine s_locs (lv' := [(2, .int (iI (((8 * v) + (bA B n i)) - 48))), (3, .int (iI (q + 1))), (1, .int (iI (bA B n at9))), (0, .ref o)]) [1, 0, 2, 3] rfl ?_
                refine s_perm (ws' := [oMo o th n a e dn (i + 1) dp po kd wh re pl base sg xt row ror xi xd np nw nr nb ns yt nrw nir yi yd inf9, aB G a 3000 B, aB G yt 400 t]) [1, 2, 0] (by decide) rfl rfl ?_
                exact ih9 (((8 * v) + (bA B n i)) - 48) (q + 1) (i + 1) (by omega) (by omega) (by rcases (show q = 1 ∨ q = 2 by omega) with e8 | e8 <;> subst e8 <;> omega) (by rcases (show q = 1 ∨ q = 2 by omega) with e8 | e8 <;> subst e8 <;> omega) (by omega)
      refine s_locs (lv' := [(2, .int (iI ((bA B n at9) - 48))), (3, .int (iI 1)), (1, .int (iI (bA B n at9))), (0, .ref o)]) [1, 0, 2, 3] rfl ?_
      refine s_perm (ws' := [oMo o th n a e dn (at9 + 1) dp po kd wh re pl base sg xt row ror xi xd np nw nr nb ns yt nrw nir yi yd inf9, aB G a 3000 B, aB G yt 400 t]) [1, 2, 0] (by decide) rfl rfl ?_
      exact lp _ ((bA B n at9) - 48) 1 (at9 + 1) (by omega) (by omega) (by omega) (by omega) (Nat.lt_succ_self _)
set_option maxRecDepth 100000 in
set_option maxHeartbeats 4000000 in
theorem c_X6_round (l : Launch) (G : GX) (o : Nat) (a : Nat) (po : Nat) (xt : Nat) (xi : Nat) (xd : Nat) (yt : Nat) (yi : Nat) (yd : Nat) (th : Int) (n : Int) (e : Int) (dn : Int) (at9 : Int) (dp : Int) (kd : Int) (wh : Int) (pl : Int) (base : Int) (sg : Int) (row : Int) (ror : Int) (np : Int) (nw : Int) (nb : Int) (ns : Int) (nrw : Int) (nir : Int) (inf9 : Int) (re : UInt64) (nr : UInt64) (B : Nat → Nat) (t : Nat → Nat) (hn : 0 ≤ n ∧ n ≤ 3000) (hBb : ∀ j, B j < 256) (he : e = 0 ∨ e = 1) (hap : 0 ≤ at9 ∧ at9 < n) (hns0 : ns = 0) (htb : ∀ j, t j < 256) : CtI l G yX6_round cX6_round 3 (some .int) ({ frames := 2, cells := 0, slots := 0, locals := 44 } : Room) [.ref o] [oMo o th n a e dn at9 dp po kd wh re pl base sg xt row ror xi xd np nw nr nb ns yt nrw nir yi yd inf9, aB G a 3000 B, aB G yt 400 t] (fun (z9 : Int) (w9 : va_W) => ∃ (at2 : Int), ∃ (np2 : Int), ∃ (nw2 : Int), ∃ (ns2 : Int), ∃ (t2 : Nat → Nat), w9 = [oMo o th n a e dn at2 dp po kd wh re pl base sg xt row ror xi xd np2 nw2 nr nb ns2 yt nrw nir yi yd inf9, aB G a 3000 B, aB G yt 400 t2] ∧ (z9 = stA e (rdS B n (at9 + 1) 1 [])) ∧ (z9 ≠ 0 → at2 = stF n (rdS B n (at9 + 1) 1 []) ∧ np2 = stP np (rdS B n (at9 + 1) 1 [])) ∧ (z9 = 6 → nw2 = ((rdS B n (at9 + 1) 1 []).2.2.length : Int) ∧ TY t2 ns2 (rdS B n (at9 + 1) 1 []).2.2) ∧ (∀ j, t2 j < 256)) := by
  intro sz
  refine met_of (fun wc sz => va_Qi (qI _) (posW G wc sz) (va_A wc sz)) (by decide) [(0, .ref o)] rfl (Nat.le_of_ble_eq_true rfl) (fun K hK9 hnm X Y => ?_)
  subst hK9
  replace Y : RI K G (some .int) 0 0 _ := Y
  refine s_aload_n X dX6_round_0 rfl 0 rfl ?_
  refine s_dup X dX6_round_1 rfl ?_
  refine s_get X dX6_round_2 fl_X6_102 0 rfl rfl ?_
  refine s_iconst X dX6_round_5 ?_
  refine s_iadd X dX6_round_6 ?_
  refine s_put X dX6_round_7 fl_X6_102 tyX6_ok nmX6 0 rfl rfl (rfl) (rfl) (Nat.le_of_ble_eq_true rfl) [oMo o th n a e dn (at9 + 1) dp po kd wh re pl base sg xt row ror xi xd np nw nr nb ns yt nrw nir yi yd inf9, aB G a 3000 B, aB G yt 400 t] rfl ?_
  refine s_iconst X dX6_round_10 ?_
  refine s_istore_n X dX6_round_11 rfl [(1, .int (iI 1)), (0, .ref o)] (by decide) rfl ?_
  have lp : ∀ (m9 : Nat) (i : Int) (op : Int) (m : Int) (tt : Nat → Nat) (ol : List Nat) (h1 : at9 + 1 ≤ i ∧ i ≤ n ∧ 1 ≤ op ∧ op ≤ i - at9 ∧ 0 ≤ m ∧ m ≤ i - at9) (h3 : TY tt m ol) (h2 : rdS B n i op ol = rdS B n (at9 + 1) 1 []), (n - i).toNat < m9 → SW K G 3 0 0 12 [(1, .int (iI op)), (0, .ref o)] [] [oMo o th n a e dn i dp po kd wh re pl base sg xt row ror xi xd np nw nr nb m yt nrw nir yi yd inf9, aB G a 3000 B, aB G yt 400 tt] := by
    intro m9
    induction m9 with
    | zero => intro i op m tt ol h1 h3 h2 hm9; exact absurd hm9 (Nat.not_lt_zero _)
    | succ m9 ih9 =>
      intro i op m tt ol h1 h3 h2 hm9
      refine s_aload_n X dX6_round_12 rfl 1 rfl ?_
      refine s_get X dX6_round_13 fl_X6_102 0 rfl rfl ?_
      refine s_aload_n X dX6_round_16 rfl 1 rfl ?_
      refine s_get X dX6_round_17 fl_X6_40 0 rfl rfl ?_
      refine s_icmp_ge X 154 dX6_round_20 (by decide) (by omega) (fun c20 => ?_) (fun c20 => ?_)
      · have hr : rdS B n (at9 + 1) 1 [] = (0, 0, []) := by rw [← h2, rdS_out (by omega)]
        refine s_aload_n X dX6_round_154 rfl 1 rfl ?_
        refine s_callIV X lk_X6_132 [0] [1, 2] (wr := [aB G a 3000 B, aB G yt 400 tt]) rfl rfl (by decide) (by decide) (by decide) (c_X6_lacking (kl K) G o a po xt xi xd yt yi yd th n e dn i dp kd wh pl base sg row ror np nw nb m nrw nir inf9 re nr (by omega)) rfl rfl dX6_round_155 rfl rfl (Nat.le_of_ble_eq_true rfl) (by decide) (fun z1 w1 h1 => ?_)
        obtain ⟨rfl, rfl⟩ := h1
        show SW K G 3 0 0 158 [(1, .int (iI op)), (0, .ref o)] [.int (iI (if e = 0 then 0 else -7))] [aB G a 3000 B, aB G yt 400 tt, oMo o th n a e dn (if e = 0 then i else n) dp po kd wh re pl base sg xt row ror xi xd np nw nr nb m yt nrw nir yi yd inf9]
        refine s_perm (ws' := [oMo o th n a e dn (if e = 0 then i else n) dp po kd wh re pl base sg xt row ror xi xd np nw nr nb m yt nrw nir yi yd inf9, aB G a 3000 B, aB G yt 400 tt]) [2, 0, 1] (by decide) rfl rfl ?_
        refine s_iret X Y dX6_round_158 (rfl) ?_
        refine ⟨(if e = 0 then i else n), np, nw, m, tt, rfl, ?_, ?_, ?_, ?_⟩
        · (first | (exfalso; omega) | (exact stA_0 hr))
        · (first | (exfalso; omega) | (intro h; rw [hr]; have h9 : ¬ e = 0 := (fun q => h (by rw [if_pos q])); exact ⟨by rw [if_neg h9]; rfl, rfl⟩))
        · (first | (exfalso; omega) | (intro h; exact absurd h (by split <;> decide)))
        · (first | (exfalso; omega) | (exact (h3).2.2))
      · refine s_aload_n X dX6_round_23 rfl 1 rfl ?_
        refine s_aload_n X dX6_round_24 rfl 1 rfl ?_
        refine s_get X dX6_round_25 fl_X6_102 0 rfl rfl ?_
        refine s_callIV X lk_X6_63 [0, 1] [2] (wr := [aB G yt 400 tt]) rfl rfl (by decide) (by decide) (by decide) (c_X6_byteAt (kl K) G o a po xt xi xd yt yi yd th n e dn i dp kd wh pl base sg row ror np nw nb m nrw nir inf9 re nr B i (by assumption) (by assumption) (by omega)) rfl rfl dX6_round_28 rfl rfl (Nat.le_of_ble_eq_true rfl) (by decide) (fun z2 w2 h2 => ?_)
        obtain ⟨rfl, rfl⟩ := h2
        show SW K G 3 0 0 31 [(1, .int (iI op)), (0, .ref o)] [.int (iI (bA B n i))] [aB G yt 400 tt, oMo o th n a e dn i dp po kd wh re pl base sg xt row ror xi xd np nw nr nb m yt nrw nir yi yd inf9, aB G a 3000 B]
        have q3 := bA_C n i (by assumption : ∀ j, B j < 256)
        refine s_istore_n X dX6_round_31 rfl [(2, .int (iI (bA B n i))), (1, .int (iI op)), (0, .ref o)] (by decide) rfl ?_
        refine s_aload_n X dX6_round_32 rfl 2 rfl ?_
        refine s_dup X dX6_round_33 rfl ?_
        refine s_get X dX6_round_34 fl_X6_102 1 rfl rfl ?_
        refine s_iconst X dX6_round_37 ?_
        refine s_iadd X dX6_round_38 ?_
        refine s_put X dX6_round_39 fl_X6_102 tyX6_ok nmX6 1 rfl rfl (rfl) (rfl) (Nat.le_of_ble_eq_true rfl) [aB G yt 400 tt, oMo o th n a e dn (i + 1) dp po kd wh re pl base sg xt row ror xi xd np nw nr nb m yt nrw nir yi yd inf9, aB G a 3000 B] rfl ?_
        refine s_iload_n X dX6_round_42 rfl 0 rfl ?_
        refine s_bipush 92 X dX6_round_43 (by decide) ?_
        refine s_icmp_ne X 66 dX6_round_45 (by decide) (by omega) (fun c45 => ?_) (fun c45 => ?_)
        · refine s_iload_n X dX6_round_66 rfl 0 rfl ?_
          refine s_bipush 13 X dX6_round_67 (by decide) ?_
          refine s_icmp_ne X 111 dX6_round_69 (by decide) (by omega) (fun c69 => ?_) (fun c69 => ?_)
          · refine s_iload_n X dX6_round_111 rfl 0 rfl ?_
            refine s_bipush 40 X dX6_round_112 (by decide) ?_
            refine s_icmp_ne X 123 dX6_round_114 (by decide) (by omega) (fun c114 => ?_) (fun c114 => ?_)
            · refine s_iload_n X dX6_round_123 rfl 0 rfl ?_
              refine s_bipush 41 X dX6_round_124 (by decide) ?_
              refine s_icmp_ne X 135 dX6_round_126 (by decide) (by omega) (fun c126 => ?_) (fun c126 => ?_)
              · refine s_iload_n X dX6_round_135 rfl 1 rfl ?_
                refine s_istore_n X dX6_round_136 rfl [(1, .int (iI op)), (2, .int (iI (bA B n i))), (0, .ref o)] (by decide) rfl ?_
                refine s_iload_n X dX6_round_137 rfl 0 rfl ?_
                refine s_if_ne X 146 dX6_round_138 (by decide) (by omega) (fun c138 => ?_) (fun c138 => ?_)
                · refine s_aload_n X dX6_round_146 rfl 2 rfl ?_
                  refine s_iload_n X dX6_round_147 rfl 1 rfl ?_
                  refine s_callVV X lk_X6_122 [1, 0] [2] (wr := [aB G a 3000 B]) rfl rfl (by decide) (by decide) (by decide) (c_X6_putSign (kl K) G o a po xt xi xd yt yi yd th n e dn (i + 1) dp kd wh pl base sg row ror np nw nb m nrw nir inf9 re nr tt (bA B n i) (by omega)) rfl rfl dX6_round_148 rfl rfl (Nat.le_of_ble_eq_true rfl) (by decide) (fun w4 h4 => ?_)
                  obtain rfl := h4
                  show SW K G 3 0 0 151 [(1, .int (iI op)), (2, .int (iI (bA B n i))), (0, .ref o)] [] [aB G a 3000 B, oMo o th n a e dn (i + 1) dp po kd wh re pl base sg xt row ror xi xd np nw nr nb (m + 1) yt nrw nir yi yd inf9, aB G yt 400 (putY tt m (bA B n i))]
                  refine s_goto X 12 dX6_round_151 (by decide) ?_
                  refine s_locs (lv' := [(1, .int (iI op)), (0, .ref o)]) [0, 2] rfl ?_
                  refine s_perm (ws' := [oMo o th n a e dn (i + 1) dp po kd wh re pl base sg xt row ror xi xd np nw nr nb (m + 1) yt nrw nir yi yd inf9, aB G a 3000 B, aB G yt 400 (putY tt m (bA B n i))]) [1, 0, 2] (by decide) rfl rfl ?_
                  exact ih9 (i + 1) op (m + 1) (putY tt m (bA B n i)) (ol ++ [by8 (bA B n i)]) (by omega) (TY_put h3) (by rw [← h2]; exact (rd_o (by omega) c69 c45 (op' := op) (by unfold opn; (repeat' split) <;> omega) (by omega)).symm) (by omega)
                · refine s_aload_n X dX6_round_141 rfl 2 rfl ?_
                  have hr : rdS B n (at9 + 1) 1 [] = (1, i + 1, ol) := by rw [← h2, rd_end (by omega) (op' := op) (by unfold opn; (repeat' split) <;> omega) (by omega)]
                  refine s_callIV X lk_X6_129 [1] [0, 2] (wr := [aB G yt 400 tt, aB G a 3000 B]) rfl rfl (by decide) (by decide) (by decide) (c_X6_finished (kl K) G o a po xt xi xd yt yi yd th n e dn (i + 1) dp kd wh pl base sg row ror np nw nb m nrw nir inf9 re nr (by omega)) rfl rfl dX6_round_142 rfl rfl (Nat.le_of_ble_eq_true rfl) (by decide) (fun z5 w5 h5 => ?_)
                  obtain ⟨rfl, rfl⟩ := h5
                  show SW K G 3 0 0 145 [(1, .int (iI op)), (2, .int (iI (bA B n i))), (0, .ref o)] [.int (iI (if 400 < m then -2 else 6))] [aB G yt 400 tt, aB G a 3000 B, oMo o th n a e dn (i + 1) dp po kd wh re pl base sg xt row ror xi xd np m nr nb m yt nrw nir yi yd inf9]
                  refine s_perm (ws' := [oMo o th n a e dn (i + 1) dp po kd wh re pl base sg xt row ror xi xd np m nr nb m yt nrw nir yi yd inf9, aB G a 3000 B, aB G yt 400 tt]) [2, 1, 0] (by decide) rfl rfl ?_
                  refine s_iret X Y dX6_round_145 (rfl) ?_
                  refine ⟨(i + 1), np, m, m, tt, rfl, ?_, ?_, ?_, ?_⟩
                  · (first | (exfalso; omega) | (exact stY_1 hr h3))
                  · (first | (exfalso; omega) | (intro _; rw [hr]; exact ⟨by first | rfl | (rw [stF_1]; omega), rfl⟩))
                  · (first | (exfalso; omega) | (intro _; exact stY_6 hr h3))
                  · (first | (exfalso; omega) | (exact (h3).2.2))
              · refine s_iload_n X dX6_round_129 rfl 1 rfl ?_
                refine s_iconst X dX6_round_130 ?_
                refine s_isub X dX6_round_131 ?_
                refine s_goto X 136 dX6_round_132 (by decide) ?_
                refine s_istore_n X dX6_round_136 rfl [(1, .int (iI (op - 1))), (2, .int (iI (bA B n i))), (0, .ref o)] (by decide) rfl ?_
                refine s_iload_n X dX6_round_137 rfl 0 rfl ?_
                refine s_if_ne X 146 dX6_round_138 (by decide) (by omega) (fun c138 => ?_) (fun c138 => ?_)
                · refine s_aload_n X dX6_round_146 rfl 2 rfl ?_
                  refine s_iload_n X dX6_round_147 rfl 1 rfl ?_
                  refine s_callVV X lk_X6_122 [1, 0] [2] (wr := [aB G a 3000 B]) rfl rfl (by decide) (by decide) (by decide) (c_X6_putSign (kl K) G o a po xt xi xd yt yi yd th n e dn (i + 1) dp kd wh pl base sg row ror np nw nb m nrw nir inf9 re nr tt (bA B n i) (by omega)) rfl rfl dX6_round_148 rfl rfl (Nat.le_of_ble_eq_true rfl) (by decide) (fun w6 h6 => ?_)
                  obtain rfl := h6
                  show SW K G 3 0 0 151 [(1, .int (iI (op - 1))), (2, .int (iI (bA B n i))), (0, .ref o)] [] [aB G a 3000 B, oMo o th n a e dn (i + 1) dp po kd wh re pl base sg xt row ror xi xd np nw nr nb (m + 1) yt nrw nir yi yd inf9, aB G yt 400 (putY tt m (bA B n i))]
                  refine s_goto X 12 dX6_round_151 (by decide) ?_
                  refine s_locs (lv' := [(1, .int (iI (op - 1))), (0, .ref o)]) [0, 2] rfl ?_
                  refine s_perm (ws' := [oMo o th n a e dn (i + 1) dp po kd wh re pl base sg xt row ror xi xd np nw nr nb (m + 1) yt nrw nir yi yd inf9, aB G a 3000 B, aB G yt 400 (putY tt m (bA B n i))]) [1, 0, 2] (by decide) rfl rfl ?_
                  exact ih9 (i + 1) (op - 1) (m + 1) (putY tt m (bA B n i)) (ol ++ [by8 (bA B n i)]) (by omega) (TY_put h3) (by rw [← h2]; exact (rd_o (by omega) c69 c45 (op' := op - 1) (by unfold opn; (repeat' split) <;> omega) (by omega)).symm) (by omega)
                · refine s_aload_n X dX6_round_141 rfl 2 rfl ?_
                  have hr : rdS B n (at9 + 1) 1 [] = (1, i + 1, ol) := by rw [← h2, rd_end (by omega) (op' := op - 1) (by unfold opn; (repeat' split) <;> omega) (by omega)]
                  refine s_callIV X lk_X6_129 [1] [0, 2] (wr := [aB G yt 400 tt, aB G a 3000 B]) rfl rfl (by decide) (by decide) (by decide) (c_X6_finished (kl K) G o a po xt xi xd yt yi yd th n e dn (i + 1) dp kd wh pl base sg row ror np nw nb m nrw nir inf9 re nr (by omega)) rfl rfl dX6_round_142 rfl rfl (Nat.le_of_ble_eq_true rfl) (by decide) (fun z7 w7 h7 => ?_)
                  obtain ⟨rfl, rfl⟩ := h7
                  show SW K G 3 0 0 145 [(1, .int (iI (op - 1))), (2, .int (iI (bA B n i))), (0, .ref o)] [.int (iI (if 400 < m then -2 else 6))] [aB G yt 400 tt, aB G a 3000 B, oMo o th n a e dn (i + 1) dp po kd wh re pl base sg xt row ror xi xd np m nr nb m yt nrw nir yi yd inf9]
                  refine s_perm (ws' := [oMo o th n a e dn (i + 1) dp po kd wh re pl base sg xt row ror xi xd np m nr nb m yt nrw nir yi yd inf9, aB G a 3000 B, aB G yt 400 tt]) [2, 1, 0] (by decide) rfl rfl ?_
                  refine s_iret X Y dX6_round_145 (rfl) ?_
                  refine ⟨(i + 1), np, m, m, tt, rfl, ?_, ?_, ?_, ?_⟩
                  · (first | (exfalso; omega) | (exact stY_1 hr h3))
                  · (first | (exfalso; omega) | (intro _; rw [hr]; exact ⟨by first | rfl | (rw [stF_1]; omega), rfl⟩))
                  · (first | (exfalso; omega) | (intro _; exact stY_6 hr h3))
                  · (first | (exfalso; omega) | (exact (h3).2.2))
            · refine s_iload_n X dX6_round_117 rfl 1 rfl ?_
              refine s_iconst X dX6_round_118 ?_
              refine s_iadd X dX6_round_119 ?_
              refine s_goto X 136 dX6_round_120 (by decide) ?_
              refine s_istore_n X dX6_round_136 rfl [(1, .int (iI (op + 1))), (2, .int (iI (bA B n i))), (0, .ref o)] (by decide) rfl ?_
              refine s_iload_n X dX6_round_137 rfl 0 rfl ?_
              refine s_if_ne X 146 dX6_round_138 (by decide) (by omega) (fun c138 => ?_) (fun c138 => ?_)
              · refine s_aload_n X dX6_round_146 rfl 2 rfl ?_
                refine s_iload_n X dX6_round_147 rfl 1 rfl ?_
                refine s_callVV X lk_X6_122 [1, 0] [2] (wr := [aB G a 3000 B]) rfl rfl (by decide) (by decide) (by decide) (c_X6_putSign (kl K) G o a po xt xi xd yt yi yd th n e dn (i + 1) dp kd wh pl base sg row ror np nw nb m nrw nir inf9 re nr tt (bA B n i) (by omega)) rfl rfl dX6_round_148 rfl rfl (Nat.le_of_ble_eq_true rfl) (by decide) (fun w8 h8 => ?_)
                obtain rfl := h8
                show SW K G 3 0 0 151 [(1, .int (iI (op + 1))), (2, .int (iI (bA B n i))), (0, .ref o)] [] [aB G a 3000 B, oMo o th n a e dn (i + 1) dp po kd wh re pl base sg xt row ror xi xd np nw nr nb (m + 1) yt nrw nir yi yd inf9, aB G yt 400 (putY tt m (bA B n i))]
                refine s_goto X 12 dX6_round_151 (by decide) ?_
                refine s_locs (lv' := [(1, .int (iI (op + 1))), (0, .ref o)]) [0, 2] rfl ?_
                refine s_perm (ws' := [oMo o th n a e dn (i + 1) dp po kd wh re pl base sg xt row ror xi xd np nw nr nb (m + 1) yt nrw nir yi yd inf9, aB G a 3000 B, aB G yt 400 (putY tt m (bA B n i))]) [1, 0, 2] (by decide) rfl rfl ?_
                exact ih9 (i + 1) (op + 1) (m + 1) (putY tt m (bA B n i)) (ol ++ [by8 (bA B n i)]) (by omega) (TY_put h3) (by rw [← h2]; exact (rd_o (by omega) c69 c45 (op' := op + 1) (by unfold opn; (repeat' split) <;> omega) (by omega)).symm) (by omega)
              · refine s_aload_n X dX6_round_141 rfl 2 rfl ?_
                have hr : rdS B n (at9 + 1) 1 [] = (1, i + 1, ol) := by rw [← h2, rd_end (by omega) (op' := op + 1) (by unfold opn; (repeat' split) <;> omega) (by omega)]
                refine s_callIV X lk_X6_129 [1] [0, 2] (wr := [aB G yt 400 tt, aB G a 3000 B]) rfl rfl (by decide) (by decide) (by decide) (c_X6_finished (kl K) G o a po xt xi xd yt yi yd th n e dn (i + 1) dp kd wh pl base sg row ror np nw nb m nrw nir inf9 re nr (by omega)) rfl rfl dX6_round_142 rfl rfl (Nat.le_of_ble_eq_true rfl) (by decide) (fun z9 w9 h9 => ?_)
                obtain ⟨rfl, rfl⟩ := h9
                show SW K G 3 0 0 145 [(1, .int (iI (op + 1))), (2, .int (iI (bA B n i))), (0, .ref o)] [.int (iI (if 400 < m then -2 else 6))] [aB G yt 400 tt, aB G a 3000 B, oMo o th n a e dn (i + 1) dp po kd wh re pl base sg xt row ror xi xd np m nr nb m yt nrw nir yi yd inf9]
                refine s_perm (ws' := [oMo o th n a e dn (i + 1) dp po kd wh re pl base sg xt row ror xi xd np m nr nb m yt nrw nir yi yd inf9, aB G a 3000 B, aB G yt 400 tt]) [2, 1, 0] (by decide) rfl rfl ?_
                refine s_iret X Y dX6_round_145 (rfl) ?_
                refine ⟨(i + 1), np, m, m, tt, rfl, ?_, ?_, ?_, ?_⟩
                · (first | (exfalso; omega) | (exact stY_1 hr h3))
                · (first | (exfalso; omega) | (intro _; rw [hr]; exact ⟨by first | rfl | (rw [stF_1]; omega), rfl⟩))
                · (first | (exfalso; omega) | (intro _; exact stY_6 hr h3))
                · (first | (exfalso; omega) | (exact (h3).2.2))
          · refine s_aload_n X dX6_round_72 rfl 2 rfl ?_
            refine s_aload_n X dX6_round_73 rfl 2 rfl ?_
            refine s_aload_n X dX6_round_74 rfl 2 rfl ?_
            refine s_get X dX6_round_75 fl_X6_102 1 rfl rfl ?_
            refine s_callIV X lk_X6_63 [1, 2] [0] (wr := [aB G yt 400 tt]) rfl rfl (by decide) (by decide) (by decide) (c_X6_byteAt (kl K) G o a po xt xi xd yt yi yd th n e dn (i + 1) dp kd wh pl base sg row ror np nw nb m nrw nir inf9 re nr B (i + 1) (by assumption) (by assumption) (by omega)) rfl rfl dX6_round_78 rfl rfl (Nat.le_of_ble_eq_true rfl) (by decide) (fun z10 w10 h10 => ?_)
            obtain ⟨rfl, rfl⟩ := h10
            show SW K G 3 0 0 81 [(2, .int (iI (bA B n i))), (1, .int (iI op)), (0, .ref o)] [.int (iI (bA B n (i + 1))), .ref o] [aB G yt 400 tt, oMo o th n a e dn (i + 1) dp po kd wh re pl base sg xt row ror xi xd np nw nr nb m yt nrw nir yi yd inf9, aB G a 3000 B]
            have q11 := bA_C n (i + 1) (by assumption : ∀ j, B j < 256)
            refine s_bipush 10 X dX6_round_81 (by decide) ?_
            refine s_icmp_ne X 95 dX6_round_83 (by decide) (by omega) (fun c83 => ?_) (fun c83 => ?_)
            · refine s_aload_n X dX6_round_95 rfl 2 rfl ?_
              refine s_get X dX6_round_96 fl_X6_102 1 rfl rfl ?_
              refine s_put X dX6_round_99 fl_X6_102 tyX6_ok nmX6 1 rfl rfl (rfl) (rfl) (Nat.le_of_ble_eq_true rfl) [aB G yt 400 tt, oMo o th n a e dn (i + 1) dp po kd wh re pl base sg xt row ror xi xd np nw nr nb m yt nrw nir yi yd inf9, aB G a 3000 B] rfl ?_
              refine s_aload_n X dX6_round_102 rfl 2 rfl ?_
              refine s_bipush 10 X dX6_round_103 (by decide) ?_
              refine s_callVV X lk_X6_122 [1, 0] [2] (wr := [aB G a 3000 B]) rfl rfl (by decide) (by decide) (by decide) (c_X6_putSign (kl K) G o a po xt xi xd yt yi yd th n e dn (i + 1) dp kd wh pl base sg row ror np nw nb m nrw nir inf9 re nr tt 10 (by omega)) rfl rfl dX6_round_105 rfl rfl (Nat.le_of_ble_eq_true rfl) (by decide) (fun w12 h12 => ?_)
              obtain rfl := h12
              show SW K G 3 0 0 108 [(2, .int (iI (bA B n i))), (1, .int (iI op)), (0, .ref o)] [] [aB G a 3000 B, oMo o th n a e dn (i + 1) dp po kd wh re pl base sg xt row ror xi xd np nw nr nb (m + 1) yt nrw nir yi yd inf9, aB G yt 400 (putY tt m 10)]
              refine s_goto X 151 dX6_round_108 (by decide) ?_
              refine s_goto X 12 dX6_round_151 (by decide) ?_
              refine s_locs (lv' := [(1, .int (iI op)), (0, .ref o)]) [1, 2] rfl ?_
              refine s_perm (ws' := [oMo o th n a e dn (i + 1) dp po kd wh re pl base sg xt row ror xi xd np nw nr nb (m + 1) yt nrw nir yi yd inf9, aB G a 3000 B, aB G yt 400 (putY tt m 10)]) [1, 0, 2] (by decide) rfl rfl ?_
              exact ih9 (i + 1) op (m + 1) (putY tt m 10) (ol ++ [by8 10]) (by omega) (TY_put h3) (by rw [← h2]; exact (rd_cr (by omega) c69 c83 (by omega)).symm) (by omega)
            · refine s_aload_n X dX6_round_86 rfl 2 rfl ?_
              refine s_get X dX6_round_87 fl_X6_102 1 rfl rfl ?_
              refine s_iconst X dX6_round_90 ?_
              refine s_iadd X dX6_round_91 ?_
              refine s_goto X 99 dX6_round_92 (by decide) ?_
              refine s_put X dX6_round_99 fl_X6_102 tyX6_ok nmX6 1 rfl rfl (rfl) (rfl) (Nat.le_of_ble_eq_true rfl) [aB G yt 400 tt, oMo o th n a e dn ((i + 1) + 1) dp po kd wh re pl base sg xt row ror xi xd np nw nr nb m yt nrw nir yi yd inf9, aB G a 3000 B] rfl ?_
              refine s_aload_n X dX6_round_102 rfl 2 rfl ?_
              refine s_bipush 10 X dX6_round_103 (by decide) ?_
              refine s_callVV X lk_X6_122 [1, 0] [2] (wr := [aB G a 3000 B]) rfl rfl (by decide) (by decide) (by decide) (c_X6_putSign (kl K) G o a po xt xi xd yt yi yd th n e dn ((i + 1) + 1) dp kd wh pl base sg row ror np nw nb m nrw nir inf9 re nr tt 10 (by omega)) rfl rfl dX6_round_105 rfl rfl (Nat.le_of_ble_eq_true rfl) (by decide) (fun w13 h13 => ?_)
              obtain rfl := h13
              show SW K G 3 0 0 108 [(2, .int (iI (bA B n i))), (1, .int (iI op)), (0, .ref o)] [] [aB G a 3000 B, oMo o th n a e dn ((i + 1) + 1) dp po kd wh re pl base sg xt row ror xi xd np nw nr nb (m + 1) yt nrw nir yi yd inf9, aB G yt 400 (putY tt m 10)]
              refine s_goto X 151 dX6_round_108 (by decide) ?_
              refine s_goto X 12 dX6_round_151 (by decide) ?_
              refine s_locs (lv' := [(1, .int (iI op)), (0, .ref o)]) [1, 2] rfl ?_
              refine s_perm (ws' := [oMo o th n a e dn ((i + 1) + 1) dp po kd wh re pl base sg xt row ror xi xd np nw nr nb (m + 1) yt nrw nir yi yd inf9, aB G a 3000 B, aB G yt 400 (putY tt m 10)]) [1, 0, 2] (by decide) rfl rfl ?_
              exact ih9 ((i + 1) + 1) op (m + 1) (putY tt m 10) (ol ++ [by8 10]) (by omega) (TY_put h3) (by rw [← h2]; exact (rd_crlf (by omega) c69 c83 (by omega)).symm) (by omega)
        · refine s_aload_n X dX6_round_48 rfl 2 rfl ?_
          refine s_get X dX6_round_49 fl_X6_102 1 rfl rfl ?_
          refine s_aload_n X dX6_round_52 rfl 2 rfl ?_
          refine s_get X dX6_round_53 fl_X6_40 1 rfl rfl ?_
          refine s_icmp_ge X 151 dX6_round_56 (by decide) (by omega) (fun c56 => ?_) (fun c56 => ?_)
          · refine s_goto X 12 dX6_round_151 (by decide) ?_
            refine s_locs (lv' := [(1, .int (iI op)), (0, .ref o)]) [1, 2] rfl ?_
            refine s_perm (ws' := [oMo o th n a e dn (i + 1) dp po kd wh re pl base sg xt row ror xi xd np nw nr nb m yt nrw nir yi yd inf9, aB G a 3000 B, aB G yt 400 tt]) [1, 2, 0] (by decide) rfl rfl ?_
            exact ih9 (i + 1) op m tt ol (by omega) (h3) (by rw [← h2]; exact (rd_92e (by omega) (by omega) c45 (by omega)).symm) (by omega)
          · refine s_aload_n X dX6_round_59 rfl 2 rfl ?_
            refine s_callVV X lk_X6_126 [1, 2, 0] [] (wr := []) rfl rfl (by decide) (by decide) (by decide) (c_X6_escape (kl K) G o a po xt xi xd yt yi yd th n e dn (i + 1) dp kd wh pl base sg row ror np nw nb m nrw nir inf9 re nr B tt ol (by assumption) (by assumption) (by omega) (by assumption) (by omega)) rfl rfl dX6_round_60 rfl rfl (Nat.le_of_ble_eq_true rfl) (by decide) (fun w14 h14 => ?_)
            obtain ⟨at214, ns214, t214, rfl, f14_0, f14_1, f14_2⟩ := h14
            show SW K G 3 0 0 63 [(2, .int (iI (bA B n i))), (1, .int (iI op)), (0, .ref o)] [] [oMo o th n a e dn at214 dp po kd wh re pl base sg xt row ror xi xd np nw nr nb ns214 yt nrw nir yi yd inf9, aB G a 3000 B, aB G yt 400 t214]
            have gA := f14_0
            have gT := f14_1
            have gP := peW_R B n (i + 1)
            have gI := pe_in (B := B) (n := n) (i := i + 1) (by omega)
            refine s_goto X 151 dX6_round_63 (by decide) ?_
            refine s_goto X 12 dX6_round_151 (by decide) ?_
            refine s_locs (lv' := [(1, .int (iI op)), (0, .ref o)]) [1, 2] rfl ?_
            exact ih9 at214 op ns214 t214 (ol ++ peO B n (i + 1)) (by omega) (gT) (by rw [← h2, rd_92 (by omega) c45 (by omega), ← gA]) (by omega)
  exact lp _ (at9 + 1) 1 ns t ([]) (by omega) (by subst hns0; exact TY_0 htb) (rfl) (Nat.lt_succ_self _)
set_option maxRecDepth 100000 in
set_option maxHeartbeats 4000000 in
theorem c_X6_sixteens (l : Launch) (G : GX) (o : Nat) (a : Nat) (po : Nat) (xt : Nat) (xi : Nat) (xd : Nat) (yt : Nat) (yi : Nat) (yd : Nat) (th : Int) (n : Int) (e : Int) (dn : Int) (at9 : Int) (dp : Int) (kd : Int) (wh : Int) (pl : Int) (base : Int) (sg : Int) (row : Int) (ror : Int) (np : Int) (nw : Int) (nb : Int) (ns : Int) (nrw : Int) (nir : Int) (inf9 : Int) (re : UInt64) (nr : UInt64) (B : Nat → Nat) (t : Nat → Nat) (hn : 0 ≤ n ∧ n ≤ 3000) (hBb : ∀ j, B j < 256) (he : e = 0 ∨ e = 1) (hap : 0 ≤ at9 ∧ at9 ≤ n) (hns0 : ns = 0) (htb : ∀ j, t j < 256) : CtI l G yX6_sixteens cX6_sixteens 4 (some .int) ({ frames := 2, cells := 0, slots := 0, locals := 40 } : Room) [.ref o] [oMo o th n a e dn at9 dp po kd wh re pl base sg xt row ror xi xd np nw nr nb ns yt nrw nir yi yd inf9, aB G a 3000 B, aB G yt 400 t] (fun (z9 : Int) (w9 : va_W) => ∃ (at2 : Int), ∃ (np2 : Int), ∃ (nw2 : Int), ∃ (ns2 : Int), ∃ (t2 : Nat → Nat), w9 = [oMo o th n a e dn at2 dp po kd wh re pl base sg xt row ror xi xd np2 nw2 nr nb ns2 yt nrw nir yi yd inf9, aB G a 3000 B, aB G yt 400 t2] ∧ (z9 = stA e (hxS B n at9 (-1) [])) ∧ (z9 ≠ 0 → at2 = stF n (hxS B n at9 (-1) []) ∧ np2 = stP np (hxS B n at9 (-1) [])) ∧ (z9 = 6 → nw2 = ((hxS B n at9 (-1) []).2.2.length : Int) ∧ TY t2 ns2 (hxS B n at9 (-1) []).2.2) ∧ (∀ j, t2 j < 256)) := by
  intro sz
  refine met_of (fun wc sz => va_Qi (qI _) (posW G wc sz) (va_A wc sz)) (by decide) [(0, .ref o)] rfl (Nat.le_of_ble_eq_true rfl) (fun K hK9 hnm X Y => ?_)
  subst hK9
  replace Y : RI K G (some .int) 0 0 _ := Y
  refine s_iconst X dX6_sixteens_0 ?_
  refine s_istore_n X dX6_sixteens_1 rfl [(1, .int (iI (-1))), (0, .ref o)] (by decide) rfl ?_
  have lp : ∀ (m9 : Nat) (i : Int) (hi : Int) (m : Int) (tt : Nat → Nat) (ol : List Nat) (h1 : at9 ≤ i ∧ i ≤ n ∧ -1 ≤ hi ∧ hi ≤ 15 ∧ 0 ≤ m ∧ m ≤ i - at9) (h3 : TY tt m ol) (h2 : hxS B n i hi ol = hxS B n at9 (-1) []), (n - i).toNat < m9 → SW K G 4 0 0 2 [(1, .int (iI hi)), (0, .ref o)] [] [oMo o th n a e dn i dp po kd wh re pl base sg xt row ror xi xd np nw nr nb m yt nrw nir yi yd inf9, aB G a 3000 B, aB G yt 400 tt] := by
    intro m9
    induction m9 with
    | zero => intro i hi m tt ol h1 h3 h2 hm9; exact absurd hm9 (Nat.not_lt_zero _)
    | succ m9 ih9 =>
      intro i hi m tt ol h1 h3 h2 hm9
      refine s_aload_n X dX6_sixteens_2 rfl 1 rfl ?_
      refine s_get X dX6_sixteens_3 fl_X6_102 0 rfl rfl ?_
      refine s_aload_n X dX6_sixteens_6 rfl 1 rfl ?_
      refine s_get X dX6_sixteens_7 fl_X6_40 0 rfl rfl ?_
      refine s_icmp_ge X 113 dX6_sixteens_10 (by decide) (by omega) (fun c10 => ?_) (fun c10 => ?_)
      · have hr : hxS B n at9 (-1) [] = (0, 0, []) := by rw [← h2, hxS_out (by omega)]
        refine s_aload_n X dX6_sixteens_113 rfl 1 rfl ?_
        refine s_callIV X lk_X6_132 [0] [1, 2] (wr := [aB G a 3000 B, aB G yt 400 tt]) rfl rfl (by decide) (by decide) (by decide) (c_X6_lacking (kl K) G o a po xt xi xd yt yi yd th n e dn i dp kd wh pl base sg row ror np nw nb m nrw nir inf9 re nr (by omega)) rfl rfl dX6_sixteens_114 rfl rfl (Nat.le_of_ble_eq_true rfl) (by decide) (fun z1 w1 h1 => ?_)
        obtain ⟨rfl, rfl⟩ := h1
        show SW K G 4 0 0 117 [(1, .int (iI hi)), (0, .ref o)] [.int (iI (if e = 0 then 0 else -7))] [aB G a 3000 B, aB G yt 400 tt, oMo o th n a e dn (if e = 0 then i else n) dp po kd wh re pl base sg xt row ror xi xd np nw nr nb m yt nrw nir yi yd inf9]
        refine s_perm (ws' := [oMo o th n a e dn (if e = 0 then i else n) dp po kd wh re pl base sg xt row ror xi xd np nw nr nb m yt nrw nir yi yd inf9, aB G a 3000 B, aB G yt 400 tt]) [2, 0, 1] (by decide) rfl rfl ?_
        refine s_iret X Y dX6_sixteens_117 (rfl) ?_
        refine ⟨(if e = 0 then i else n), np, nw, m, tt, rfl, ?_, ?_, ?_, ?_⟩
        · (first | (exfalso; omega) | (exact stA_0 hr))
        · (first | (exfalso; omega) | (intro h; rw [hr]; have h9 : ¬ e = 0 := (fun q => h (by rw [if_pos q])); exact ⟨by rw [if_neg h9]; rfl, rfl⟩))
        · (first | (exfalso; omega) | (intro h; exact absurd h (by split <;> decide)))
        · (first | (exfalso; omega) | (exact (h3).2.2))
      · refine s_aload_n X dX6_sixteens_13 rfl 1 rfl ?_
        refine s_aload_n X dX6_sixteens_14 rfl 1 rfl ?_
        refine s_get X dX6_sixteens_15 fl_X6_102 0 rfl rfl ?_
        refine s_callIV X lk_X6_63 [0, 1] [2] (wr := [aB G yt 400 tt]) rfl rfl (by decide) (by decide) (by decide) (c_X6_byteAt (kl K) G o a po xt xi xd yt yi yd th n e dn i dp kd wh pl base sg row ror np nw nb m nrw nir inf9 re nr B i (by assumption) (by assumption) (by omega)) rfl rfl dX6_sixteens_18 rfl rfl (Nat.le_of_ble_eq_true rfl) (by decide) (fun z2 w2 h2 => ?_)
        obtain ⟨rfl, rfl⟩ := h2
        show SW K G 4 0 0 21 [(1, .int (iI hi)), (0, .ref o)] [.int (iI (bA B n i))] [aB G yt 400 tt, oMo o th n a e dn i dp po kd wh re pl base sg xt row ror xi xd np nw nr nb m yt nrw nir yi yd inf9, aB G a 3000 B]
        have q3 := bA_C n i (by assumption : ∀ j, B j < 256)
        refine s_istore_n X dX6_sixteens_21 rfl [(2, .int (iI (bA B n i))), (1, .int (iI hi)), (0, .ref o)] (by decide) rfl ?_
        refine s_iload_n X dX6_sixteens_22 rfl 0 rfl ?_
        refine s_bipush 62 X dX6_sixteens_23 (by decide) ?_
        refine s_icmp_ne X 55 dX6_sixteens_25 (by decide) (by omega) (fun c25 => ?_) (fun c25 => ?_)
        · refine s_iload_n X dX6_sixteens_55 rfl 0 rfl ?_
          refine s_callIS X lk_X6_46 [] [0, 1, 2] (wr := [aB G yt 400 tt, oMo o th n a e dn i dp po kd wh re pl base sg xt row ror xi xd np nw nr nb m yt nrw nir yi yd inf9, aB G a 3000 B]) rfl rfl (by decide) (by decide) (by decide) (c_X6_isBlank (kl K) G (bA B n i) (by omega)) dX6_sixteens_56 rfl rfl (Nat.le_of_ble_eq_true rfl) (by decide) (fun z4 w4 h4 => ?_)
          obtain ⟨rfl, rfl⟩ := h4
          show SW K G 4 0 0 59 [(2, .int (iI (bA B n i))), (1, .int (iI hi)), (0, .ref o)] [.int (iI (tf (isW (bA B n i))))] [aB G yt 400 tt, oMo o th n a e dn i dp po kd wh re pl base sg xt row ror xi xd np nw nr nb m yt nrw nir yi yd inf9, aB G a 3000 B]
          refine s_tf_ne X 100 dX6_sixteens_59 (by decide) (fun c59 => ?_) (fun c59 => ?_)
          · refine s_aload_n X dX6_sixteens_100 rfl 2 rfl ?_
            refine s_dup X dX6_sixteens_101 rfl ?_
            refine s_get X dX6_sixteens_102 fl_X6_102 1 rfl rfl ?_
            refine s_iconst X dX6_sixteens_105 ?_
            refine s_iadd X dX6_sixteens_106 ?_
            refine s_put X dX6_sixteens_107 fl_X6_102 tyX6_ok nmX6 1 rfl rfl (rfl) (rfl) (Nat.le_of_ble_eq_true rfl) [aB G yt 400 tt, oMo o th n a e dn (i + 1) dp po kd wh re pl base sg xt row ror xi xd np nw nr nb m yt nrw nir yi yd inf9, aB G a 3000 B] rfl ?_
            refine s_goto X 2 dX6_sixteens_110 (by decide) ?_
            refine s_locs (lv' := [(1, .int (iI hi)), (0, .ref o)]) [1, 2] rfl ?_
            refine s_perm (ws' := [oMo o th n a e dn (i + 1) dp po kd wh re pl base sg xt row ror xi xd np nw nr nb m yt nrw nir yi yd inf9, aB G a 3000 B, aB G yt 400 tt]) [1, 2, 0] (by decide) rfl rfl ?_
            exact ih9 (i + 1) hi m tt ol (by omega) (h3) (by rw [← h2, hxS_s (i := i) (by omega), if_pos (by assumption)]) (by omega)
          · refine s_iload_n X dX6_sixteens_62 rfl 0 rfl ?_
            refine s_callIS X lk_X6_88 [] [0, 1, 2] (wr := [aB G yt 400 tt, oMo o th n a e dn i dp po kd wh re pl base sg xt row ror xi xd np nw nr nb m yt nrw nir yi yd inf9, aB G a 3000 B]) rfl rfl (by decide) (by decide) (by decide) (c_X6_digit (kl K) G (bA B n i) (by omega)) dX6_sixteens_63 rfl rfl (Nat.le_of_ble_eq_true rfl) (by decide) (fun z5 w5 h5 => ?_)
            obtain ⟨rfl, rfl⟩ := h5
            show SW K G 4 0 0 66 [(2, .int (iI (bA B n i))), (1, .int (iI hi)), (0, .ref o)] [.int (iI (dg9 (bA B n i)))] [aB G yt 400 tt, oMo o th n a e dn i dp po kd wh re pl base sg xt row ror xi xd np nw nr nb m yt nrw nir yi yd inf9, aB G a 3000 B]
            have q6 := dg9_C (bA B n i)
            have q7 := dg_C (bA B n i)
            refine s_istore_n X dX6_sixteens_66 rfl [(3, .int (iI (dg9 (bA B n i)))), (2, .int (iI (bA B n i))), (1, .int (iI hi)), (0, .ref o)] (by decide) rfl ?_
            refine s_iload_n X dX6_sixteens_67 rfl 0 rfl ?_
            refine s_bipush 15 X dX6_sixteens_68 (by decide) ?_
            refine s_icmp_le X 79 dX6_sixteens_70 (by decide) (by omega) (fun c70 => ?_) (fun c70 => ?_)
            · refine s_iload_n X dX6_sixteens_79 rfl 2 rfl ?_
              refine s_if_ge X 88 dX6_sixteens_80 (by decide) (by omega) (fun c80 => ?_) (fun c80 => ?_)
              · refine s_aload_n X dX6_sixteens_88 rfl 3 rfl ?_
                refine s_bipush 16 X dX6_sixteens_89 (by decide) ?_
                refine s_iload_n X dX6_sixteens_91 rfl 2 rfl ?_
                refine s_imul X dX6_sixteens_92 ?_
                refine s_iload_n X dX6_sixteens_93 rfl 0 rfl ?_
                refine s_iadd X dX6_sixteens_94 ?_
                refine s_callVV X lk_X6_122 [1, 0] [2] (wr := [aB G a 3000 B]) rfl rfl (by decide) (by decide) (by decide) (c_X6_putSign (kl K) G o a po xt xi xd yt yi yd th n e dn i dp kd wh pl base sg row ror np nw nb m nrw nir inf9 re nr tt ((16 * hi) + (dg9 (bA B n i))) (by omega)) rfl rfl dX6_sixteens_95 rfl rfl (Nat.le_of_ble_eq_true rfl) (by decide) (fun w8 h8 => ?_)
                obtain rfl := h8
                show SW K G 4 0 0 98 [(3, .int (iI (dg9 (bA B n i)))), (2, .int (iI (bA B n i))), (1, .int (iI hi)), (0, .ref o)] [] [aB G a 3000 B, oMo o th n a e dn i dp po kd wh re pl base sg xt row ror xi xd np nw nr nb (m + 1) yt nrw nir yi yd inf9, aB G yt 400 (putY tt m ((16 * hi) + (dg9 (bA B n i))))]
                refine s_iconst X dX6_sixteens_98 ?_
                refine s_istore_n X dX6_sixteens_99 rfl [(1, .int (iI (-1))), (3, .int (iI (dg9 (bA B n i)))), (2, .int (iI (bA B n i))), (0, .ref o)] (by decide) rfl ?_
                refine s_aload_n X dX6_sixteens_100 rfl 3 rfl ?_
                refine s_dup X dX6_sixteens_101 rfl ?_
                refine s_get X dX6_sixteens_102 fl_X6_102 1 rfl rfl ?_
                refine s_iconst X dX6_sixteens_105 ?_
                refine s_iadd X dX6_sixteens_106 ?_
                refine s_put X dX6_sixteens_107 fl_X6_102 tyX6_ok nmX6 1 rfl rfl (rfl) (rfl) (Nat.le_of_ble_eq_true rfl) [aB G a 3000 B, oMo o th n a e dn (i + 1) dp po kd wh re pl base sg xt row ror xi xd np nw nr nb (m + 1) yt nrw nir yi yd inf9, aB G yt 400 (putY tt m ((16 * hi) + (dg9 (bA B n i))))] rfl ?_
                refine s_goto X 2 dX6_sixteens_110 (by decide) ?_
                refine s_locs (lv' := [(1, .int (iI (-1))), (0, .ref o)]) [0, 3] rfl ?_
                refine s_perm (ws' := [oMo o th n a e dn (i + 1) dp po kd wh re pl base sg xt row ror xi xd np nw nr nb (m + 1) yt nrw nir yi yd inf9, aB G a 3000 B, aB G yt 400 (putY tt m ((16 * hi) + (dg9 (bA B n i))))]) [1, 0, 2] (by decide) rfl rfl ?_
                exact ih9 (i + 1) (-1) (m + 1) (putY tt m ((16 * hi) + (dg9 (bA B n i)))) (ol ++ [by8 (hi * 16 + dg (bA B n i))]) (by omega) (by rw [show hi * 16 + dg (bA B n i) = 16 * hi + dg9 (bA B n i) by omega]; exact TY_put h3) (by rw [← h2, hxS_s (i := i) (by omega), if_neg (by assumption), if_neg (by assumption), if_neg (by omega), if_neg (by omega)]) (by omega)
              · refine s_iload_n X dX6_sixteens_83 rfl 0 rfl ?_
                refine s_istore_n X dX6_sixteens_84 rfl [(1, .int (iI (dg9 (bA B n i)))), (3, .int (iI (dg9 (bA B n i)))), (2, .int (iI (bA B n i))), (0, .ref o)] (by decide) rfl ?_
                refine s_goto X 100 dX6_sixteens_85 (by decide) ?_
                refine s_aload_n X dX6_sixteens_100 rfl 3 rfl ?_
                refine s_dup X dX6_sixteens_101 rfl ?_
                refine s_get X dX6_sixteens_102 fl_X6_102 1 rfl rfl ?_
                refine s_iconst X dX6_sixteens_105 ?_
                refine s_iadd X dX6_sixteens_106 ?_
                refine s_put X dX6_sixteens_107 fl_X6_102 tyX6_ok nmX6 1 rfl rfl (rfl) (rfl) (Nat.le_of_ble_eq_true rfl) [aB G yt 400 tt, oMo o th n a e dn (i + 1) dp po kd wh re pl base sg xt row ror xi xd np nw nr nb m yt nrw nir yi yd inf9, aB G a 3000 B] rfl ?_
                refine s_goto X 2 dX6_sixteens_110 (by decide) ?_
                refine s_locs (lv' := [(1, .int (iI (dg9 (bA B n i)))), (0, .ref o)]) [0, 3] rfl ?_
                refine s_perm (ws' := [oMo o th n a e dn (i + 1) dp po kd wh re pl base sg xt row ror xi xd np nw nr nb m yt nrw nir yi yd inf9, aB G a 3000 B, aB G yt 400 tt]) [1, 2, 0] (by decide) rfl rfl ?_
                exact ih9 (i + 1) (dg9 (bA B n i)) m tt ol (by omega) (h3) (by rw [← h2, hxS_s (i := i) (by omega), if_neg (by assumption), if_neg (by assumption), if_neg (by omega), if_pos (by omega), show dg9 (bA B n i) = dg (bA B n i) by omega]) (by omega)
            · have hr : hxS B n at9 (-1) [] = (2, i, []) := by rw [← h2, hxS_s (i := i) (by omega), if_neg (by assumption), if_neg (by assumption), if_pos (by omega)]
              refine s_aload_n X dX6_sixteens_73 rfl 3 rfl ?_
              refine s_iconst X dX6_sixteens_74 ?_
              refine s_callIV X lk_X6_138 [1] [0, 2] (wr := [aB G yt 400 tt, aB G a 3000 B]) rfl rfl (by decide) (by decide) (by decide) (c_X6_wrongByte (kl K) G o a po xt xi xd yt yi yd th n e dn i dp kd wh pl base sg row ror np nw nb m nrw nir inf9 re nr 2) rfl rfl dX6_sixteens_75 rfl rfl (Nat.le_of_ble_eq_true rfl) (by decide) (fun z9 w9 h9 => ?_)
              obtain ⟨rfl, rfl⟩ := h9
              show SW K G 4 0 0 78 [(3, .int (iI (dg9 (bA B n i)))), (2, .int (iI (bA B n i))), (1, .int (iI hi)), (0, .ref o)] [.int (iI (-1 - 2))] [aB G yt 400 tt, aB G a 3000 B, oMo o th n a e dn (i + 1) dp po kd wh re pl base sg xt row ror xi xd i nw nr nb m yt nrw nir yi yd inf9]
              refine s_perm (ws' := [oMo o th n a e dn (i + 1) dp po kd wh re pl base sg xt row ror xi xd i nw nr nb m yt nrw nir yi yd inf9, aB G a 3000 B, aB G yt 400 tt]) [2, 1, 0] (by decide) rfl rfl ?_
              refine s_iret X Y dX6_sixteens_78 (rfl) ?_
              refine ⟨(i + 1), i, nw, m, tt, rfl, ?_, ?_, ?_, ?_⟩
              · (first | (exfalso; omega) | (exact (show (-1 - 2 : Int) = -3 from rfl).trans (stA_2 hr)))
              · (first | (exfalso; omega) | (intro _; rw [hr]; exact ⟨rfl, rfl⟩))
              · (first | (exfalso; omega) | (intro h; exact absurd h (by decide)))
              · (first | (exfalso; omega) | (exact (h3).2.2))
        · refine s_aload_n X dX6_sixteens_28 rfl 2 rfl ?_
          refine s_dup X dX6_sixteens_29 rfl ?_
          refine s_get X dX6_sixteens_30 fl_X6_102 1 rfl rfl ?_
          refine s_iconst X dX6_sixteens_33 ?_
          refine s_iadd X dX6_sixteens_34 ?_
          refine s_put X dX6_sixteens_35 fl_X6_102 tyX6_ok nmX6 1 rfl rfl (rfl) (rfl) (Nat.le_of_ble_eq_true rfl) [aB G yt 400 tt, oMo o th n a e dn (i + 1) dp po kd wh re pl base sg xt row ror xi xd np nw nr nb m yt nrw nir yi yd inf9, aB G a 3000 B] rfl ?_
          refine s_iload_n X dX6_sixteens_38 rfl 1 rfl ?_
          refine s_if_lt X 50 dX6_sixteens_39 (by decide) (by omega) (fun c39 => ?_) (fun c39 => ?_)
          · have hr : hxS B n at9 (-1) [] = (1, i + 1, ol) := by rw [← h2, hxS_s (i := i) (by omega), if_neg (by omega), if_pos (by assumption), if_pos (by omega)]
            have hT := h3
            refine s_aload_n X dX6_sixteens_50 rfl 2 rfl ?_
            refine s_callIV X lk_X6_129 [1] [0, 2] (wr := [aB G yt 400 tt, aB G a 3000 B]) rfl rfl (by decide) (by decide) (by decide) (c_X6_finished (kl K) G o a po xt xi xd yt yi yd th n e dn (i + 1) dp kd wh pl base sg row ror np nw nb m nrw nir inf9 re nr (by omega)) rfl rfl dX6_sixteens_51 rfl rfl (Nat.le_of_ble_eq_true rfl) (by decide) (fun z10 w10 h10 => ?_)
            obtain ⟨rfl, rfl⟩ := h10
            show SW K G 4 0 0 54 [(2, .int (iI (bA B n i))), (1, .int (iI hi)), (0, .ref o)] [.int (iI (if 400 < m then -2 else 6))] [aB G yt 400 tt, aB G a 3000 B, oMo o th n a e dn (i + 1) dp po kd wh re pl base sg xt row ror xi xd np m nr nb m yt nrw nir yi yd inf9]
            refine s_perm (ws' := [oMo o th n a e dn (i + 1) dp po kd wh re pl base sg xt row ror xi xd np m nr nb m yt nrw nir yi yd inf9, aB G a 3000 B, aB G yt 400 tt]) [2, 1, 0] (by decide) rfl rfl ?_
            refine s_iret X Y dX6_sixteens_54 (rfl) ?_
            refine ⟨(i + 1), np, m, m, tt, rfl, ?_, ?_, ?_, ?_⟩
            · (first | (exfalso; omega) | (exact stY_1 hr hT))
            · (first | (exfalso; omega) | (intro _; rw [hr]; exact ⟨by first | rfl | (rw [stF_1]; omega), rfl⟩))
            · (first | (exfalso; omega) | (intro _; exact stY_6 hr hT))
            · (first | (exfalso; omega) | (exact (hT).2.2))
          · refine s_aload_n X dX6_sixteens_42 rfl 2 rfl ?_
            refine s_bipush 16 X dX6_sixteens_43 (by decide) ?_
            refine s_iload_n X dX6_sixteens_45 rfl 1 rfl ?_
            refine s_imul X dX6_sixteens_46 ?_
            refine s_callVV X lk_X6_122 [1, 0] [2] (wr := [aB G a 3000 B]) rfl rfl (by decide) (by decide) (by decide) (c_X6_putSign (kl K) G o a po xt xi xd yt yi yd th n e dn (i + 1) dp kd wh pl base sg row ror np nw nb m nrw nir inf9 re nr tt (16 * hi) (by omega)) rfl rfl dX6_sixteens_47 rfl rfl (Nat.le_of_ble_eq_true rfl) (by decide) (fun w11 h11 => ?_)
            obtain rfl := h11
            show SW K G 4 0 0 50 [(2, .int (iI (bA B n i))), (1, .int (iI hi)), (0, .ref o)] [] [aB G a 3000 B, oMo o th n a e dn (i + 1) dp po kd wh re pl base sg xt row ror xi xd np nw nr nb (m + 1) yt nrw nir yi yd inf9, aB G yt 400 (putY tt m (16 * hi))]
            have hr : hxS B n at9 (-1) [] = (1, i + 1, ol ++ [by8 (16 * hi)]) := by rw [← h2, hxS_s (i := i) (by omega), if_neg (by omega), if_pos (by assumption), if_neg (by omega), Int.mul_comm hi 16]
            have hT := TY_put (v := 16 * hi) h3
            refine s_aload_n X dX6_sixteens_50 rfl 2 rfl ?_
            refine s_callIV X lk_X6_129 [1] [0, 2] (wr := [aB G a 3000 B, aB G yt 400 (putY tt m (16 * hi))]) rfl rfl (by decide) (by decide) (by decide) (c_X6_finished (kl K) G o a po xt xi xd yt yi yd th n e dn (i + 1) dp kd wh pl base sg row ror np nw nb (m + 1) nrw nir inf9 re nr (by omega)) rfl rfl dX6_sixteens_51 rfl rfl (Nat.le_of_ble_eq_true rfl) (by decide) (fun z12 w12 h12 => ?_)
            obtain ⟨rfl, rfl⟩ := h12
            show SW K G 4 0 0 54 [(2, .int (iI (bA B n i))), (1, .int (iI hi)), (0, .ref o)] [.int (iI (if 400 < (m + 1) then -2 else 6))] [aB G a 3000 B, aB G yt 400 (putY tt m (16 * hi)), oMo o th n a e dn (i + 1) dp po kd wh re pl base sg xt row ror xi xd np (m + 1) nr nb (m + 1) yt nrw nir yi yd inf9]
            refine s_perm (ws' := [oMo o th n a e dn (i + 1) dp po kd wh re pl base sg xt row ror xi xd np (m + 1) nr nb (m + 1) yt nrw nir yi yd inf9, aB G a 3000 B, aB G yt 400 (putY tt m (16 * hi))]) [2, 0, 1] (by decide) rfl rfl ?_
            refine s_iret X Y dX6_sixteens_54 (rfl) ?_
            refine ⟨(i + 1), np, (m + 1), (m + 1), (putY tt m (16 * hi)), rfl, ?_, ?_, ?_, ?_⟩
            · (first | (exfalso; omega) | (exact stY_1 hr hT))
            · (first | (exfalso; omega) | (intro _; rw [hr]; exact ⟨by first | rfl | (rw [stF_1]; omega), rfl⟩))
            · (first | (exfalso; omega) | (intro _; exact stY_6 hr hT))
            · (first | (exfalso; omega) | (exact (hT).2.2))
  exact lp _ at9 (-1) ns t ([]) (by omega) (by subst hns0; exact TY_0 htb) (rfl) (Nat.lt_succ_self _)
set_option maxRecDepth 100000 in
set_option maxHeartbeats 4000000 in
theorem c_X6_some (l : Launch) (G : GX) (o : Nat) (a : Nat) (po : Nat) (xt : Nat) (xi : Nat) (xd : Nat) (yt : Nat) (yi : Nat) (yd : Nat) (th : Int) (n : Int) (e : Int) (dn : Int) (at9 : Int) (dp : Int) (kd : Int) (wh : Int) (pl : Int) (base : Int) (sg : Int) (row : Int) (ror : Int) (np : Int) (nw : Int) (nb : Int) (ns : Int) (nrw : Int) (nir : Int) (inf9 : Int) (re : UInt64) (nr : UInt64) (B : Nat → Nat) (t : Nat → Nat) (ol : List Nat) (g : Int) (c : Int) (hty : TY t ns ol) (hns : 0 ≤ ns ∧ ns ≤ 15000) (hg : 0 ≤ g ∧ g < 9223372036854775808) (hc : 0 ≤ c ∧ c ≤ 4) : CtV l G yX6_some cX6_some 5 none ({ frames := 1, cells := 0, slots := 0, locals := 21 } : Room) [.ref o, .long (lI g), .int (iI c)] [oMo o th n a e dn at9 dp po kd wh re pl base sg xt row ror xi xd np nw nr nb ns yt nrw nir yi yd inf9, aB G yt 400 t] (fun (w9 : va_W) => ∃ (ns2 : Int), ∃ (t2 : Nat → Nat), w9 = [oMo o th n a e dn at9 dp po kd wh re pl base sg xt row ror xi xd np nw nr nb ns2 yt nrw nir yi yd inf9, aB G yt 400 t2] ∧ (TY t2 ns2 (ol ++ hiL g c.toNat)) ∧ (ns2 = ns + c)) := by
  intro sz
  refine met_of (fun wc sz => va_Qv _ (posW G wc sz) (va_A wc sz)) (by decide) [(0, .ref o), (1, .long (lI g)), (3, .int (iI c))] rfl (Nat.le_of_ble_eq_true rfl) (fun K hK9 hnm X Y => ?_)
  subst hK9
  replace Y : RV K G none 0 0 _ := Y
  refine s_iconst X dX6_some_0 ?_
  refine s_istore X dX6_some_1 [(4, .int (iI 0)), (0, .ref o), (1, .long (lI g)), (3, .int (iI c))] (by decide) rfl ?_
  have lp : ∀ (m9 : Nat) (q : Int) (m : Int) (tt : Nat → Nat) (h1 : 0 ≤ q ∧ q ≤ c) (hm : m = ns + q) (h3 : TY tt m (ol ++ hiL g q.toNat)), (c - q).toNat < m9 → SW K G 5 0 0 3 [(4, .int (iI q)), (0, .ref o), (1, .long (lI g)), (3, .int (iI c))] [] [oMo o th n a e dn at9 dp po kd wh re pl base sg xt row ror xi xd np nw nr nb m yt nrw nir yi yd inf9, aB G yt 400 tt] := by
    intro m9
    induction m9 with
    | zero => intro q m tt h1 hm h3 hm9; exact absurd hm9 (Nat.not_lt_zero _)
    | succ m9 ih9 =>
      intro q m tt h1 hm h3 hm9
      refine s_iload X dX6_some_3 0 rfl ?_
      refine s_iload_n X dX6_some_5 rfl 3 rfl ?_
      refine s_icmp_ge X 34 dX6_some_6 (by decide) (by omega) (fun c6 => ?_) (fun c6 => ?_)
      · refine s_vret X Y dX6_some_34 ?_
        refine ⟨m, tt, rfl, ?_, ?_⟩
        · (first | (exfalso; omega) | (exact sm_end h1 (by omega) h3))
        · (first | (exfalso; omega) | (omega))
      · refine s_aload_n X dX6_some_9 rfl 1 rfl ?_
        refine s_lload_n X dX6_some_10 rfl 2 rfl ?_
        refine s_bipush 24 X dX6_some_11 (by decide) ?_
        refine s_bipush 8 X dX6_some_13 (by decide) ?_
        refine s_iload X dX6_some_15 0 rfl ?_
        refine s_imul X dX6_some_17 ?_
        refine s_isub X dX6_some_18 ?_
        refine s_lshr (z := g / 2 ^ (24 - 8 * q.toNat)) X dX6_some_19 (by exact ph_shr hg ⟨h1.1, by omega⟩) ?_
        refine s_ldc2 255 X dX6_some_20 tg925 (by decide) ?_
        refine s_land (z := g / 2 ^ (24 - 8 * q.toNat) % 256) X dX6_some_23 (by exact land255 _) ?_
        refine s_l2i X dX6_some_24 ?_
        refine s_callVV X lk_X6_122 [0, 1] [] (wr := []) rfl rfl (by decide) (by decide) (by decide) (c_X6_putSign (kl K) G o a po xt xi xd yt yi yd th n e dn at9 dp kd wh pl base sg row ror np nw nb m nrw nir inf9 re nr tt (g / 2 ^ (24 - 8 * q.toNat) % 256) (by omega)) rfl rfl dX6_some_25 rfl rfl (Nat.le_of_ble_eq_true rfl) (by decide) (fun w1 h1 => ?_)
        obtain rfl := h1
        show SW K G 5 0 0 28 [(4, .int (iI q)), (0, .ref o), (1, .long (lI g)), (3, .int (iI c))] [] [oMo o th n a e dn at9 dp po kd wh re pl base sg xt row ror xi xd np nw nr nb (m + 1) yt nrw nir yi yd inf9, aB G yt 400 (putY tt m (g / 2 ^ (24 - 8 * q.toNat) % 256))]
        refine s_iinc (z := q + 1) X dX6_some_28 0 rfl (by first | rfl | omega) [(4, .int (iI (q + 1))), (0, .ref o), (1, .long (lI g)), (3, .int (iI c))] (by decide) rfl ?_
        refine s_goto X 3 dX6_some_31 (by decide) ?_
        exact ih9 (q + 1) (m + 1) (putY tt m (g / 2 ^ (24 - 8 * q.toNat) % 256)) (by omega) (by omega) (sm_step h1.1 (TY_put h3)) (by omega)
  exact lp _ 0 ns t (by omega) (by omega) (by simpa [hiL] using hty) (Nat.lt_succ_self _)
set_option maxRecDepth 100000 in
set_option maxHeartbeats 4000000 in
theorem c_X6_eightyFives (l : Launch) (G : GX) (o : Nat) (a : Nat) (po : Nat) (xt : Nat) (xi : Nat) (xd : Nat) (yt : Nat) (yi : Nat) (yd : Nat) (th : Int) (n : Int) (e : Int) (dn : Int) (at9 : Int) (dp : Int) (kd : Int) (wh : Int) (pl : Int) (base : Int) (sg : Int) (row : Int) (ror : Int) (np : Int) (nw : Int) (nb : Int) (ns : Int) (nrw : Int) (nir : Int) (inf9 : Int) (re : UInt64) (nr : UInt64) (B : Nat → Nat) (t : Nat → Nat) (hn : 0 ≤ n ∧ n ≤ 3000) (hBb : ∀ j, B j < 256) (he : e = 0 ∨ e = 1) (hap : 0 ≤ at9 ∧ at9 + 2 ≤ n) (hns0 : ns = 0) (htb : ∀ j, t j < 256) : CtI l G yX6_eightyFives cX6_eightyFives 8 (some .int) ({ frames := 2, cells := 0, slots := 0, locals := 45 } : Room) [.ref o] [oMo o th n a e dn at9 dp po kd wh re pl base sg xt row ror xi xd np nw nr nb ns yt nrw nir yi yd inf9, aB G a 3000 B, aB G yt 400 t] (fun (z9 : Int) (w9 : va_W) => ∃ (at2 : Int), ∃ (np2 : Int), ∃ (nw2 : Int), ∃ (ns2 : Int), ∃ (t2 : Nat → Nat), w9 = [oMo o th n a e dn at2 dp po kd wh re pl base sg xt row ror xi xd np2 nw2 nr nb ns2 yt nrw nir yi yd inf9, aB G a 3000 B, aB G yt 400 t2] ∧ (z9 = stA e (e5S B n (at9 + 2) 0 0 [])) ∧ (z9 ≠ 0 → at2 = stF n (e5S B n (at9 + 2) 0 0 []) ∧ np2 = stP np (e5S B n (at9 + 2) 0 0 [])) ∧ (z9 = 6 → nw2 = ((e5S B n (at9 + 2) 0 0 []).2.2.length : Int) ∧ TY t2 ns2 (e5S B n (at9 + 2) 0 0 []).2.2) ∧ (∀ j, t2 j < 256)) := by
  intro sz
  refine met_of (fun wc sz => va_Qi (qI _) (posW G wc sz) (va_A wc sz)) (by decide) [(0, .ref o)] rfl (Nat.le_of_ble_eq_true rfl) (fun K hK9 hnm X Y => ?_)
  subst hK9
  replace Y : RI K G (some .int) 0 0 _ := Y
  refine s_aload_n X dX6_eightyFives_0 rfl 0 rfl ?_
  refine s_aload_n X dX6_eightyFives_1 rfl 0 rfl ?_
  refine s_get X dX6_eightyFives_2 fl_X6_102 0 rfl rfl ?_
  refine s_iconst X dX6_eightyFives_5 ?_
  refine s_iadd X dX6_eightyFives_6 ?_
  refine s_put X dX6_eightyFives_7 fl_X6_102 tyX6_ok nmX6 0 rfl rfl (rfl) (rfl) (Nat.le_of_ble_eq_true rfl) [oMo o th n a e dn (at9 + 2) dp po kd wh re pl base sg xt row ror xi xd np nw nr nb ns yt nrw nir yi yd inf9, aB G a 3000 B, aB G yt 400 t] rfl ?_
  refine s_lconst0 X dX6_eightyFives_10 ?_
  refine s_lstore_n X dX6_eightyFives_11 rfl [(1, .long (lI 0)), (0, .ref o)] (by decide) rfl ?_
  refine s_iconst X dX6_eightyFives_12 ?_
  refine s_istore_n X dX6_eightyFives_13 rfl [(3, .int (iI 0)), (1, .long (lI 0)), (0, .ref o)] (by decide) rfl ?_
  have lp : ∀ (m9 : Nat) (i : Int) (g : Int) (q : Int) (m : Int) (tt : Nat → Nat) (ol : List Nat) (h1 : at9 + 2 ≤ i ∧ i ≤ n ∧ 0 ≤ m ∧ m ≤ 4 * (i - at9)) (hg : (q = 0 ∧ g = 0) ∨ (q = 1 ∧ 0 ≤ g ∧ g < 85) ∨ (q = 2 ∧ 0 ≤ g ∧ g < 7225) ∨ (q = 3 ∧ 0 ≤ g ∧ g < 614125) ∨ (q = 4 ∧ 0 ≤ g ∧ g < 52200625)) (h3 : TY tt m ol) (h2 : e5S B n i g q ol = e5S B n (at9 + 2) 0 0 []), (n - i).toNat < m9 → SW K G 8 0 0 14 [(1, .long (lI g)), (3, .int (iI q)), (0, .ref o)] [] [oMo o th n a e dn i dp po kd wh re pl base sg xt row ror xi xd np nw nr nb m yt nrw nir yi yd inf9, aB G a 3000 B, aB G yt 400 tt] := by
    intro m9
    induction m9 with
    | zero => intro i g q m tt ol h1 hg h3 h2 hm9; exact absurd hm9 (Nat.not_lt_zero _)
    | succ m9 ih9 =>
      intro i g q m tt ol h1 hg h3 h2 hm9
      refine s_aload_n X dX6_eightyFives_14 rfl 2 rfl ?_
      refine s_get X dX6_eightyFives_15 fl_X6_102 0 rfl rfl ?_
      refine s_aload_n X dX6_eightyFives_18 rfl 2 rfl ?_
      refine s_get X dX6_eightyFives_19 fl_X6_40 0 rfl rfl ?_
      refine s_icmp_ge X 283 dX6_eightyFives_22 (by decide) (by omega) (fun c22 => ?_) (fun c22 => ?_)
      · have hr : e5S B n (at9 + 2) 0 0 [] = (0, 0, []) := by rw [← h2, e5S_out (by omega)]
        refine s_aload_n X dX6_eightyFives_283 rfl 2 rfl ?_
        refine s_callIV X lk_X6_132 [0] [1, 2] (wr := [aB G a 3000 B, aB G yt 400 tt]) rfl rfl (by decide) (by decide) (by decide) (c_X6_lacking (kl K) G o a po xt xi xd yt yi yd th n e dn i dp kd wh pl base sg row ror np nw nb m nrw nir inf9 re nr (by omega)) rfl rfl dX6_eightyFives_284 rfl rfl (Nat.le_of_ble_eq_true rfl) (by decide) (fun z1 w1 h1 => ?_)
        obtain ⟨rfl, rfl⟩ := h1
        show SW K G 8 0 0 287 [(1, .long (lI g)), (3, .int (iI q)), (0, .ref o)] [.int (iI (if e = 0 then 0 else -7))] [aB G a 3000 B, aB G yt 400 tt, oMo o th n a e dn (if e = 0 then i else n) dp po kd wh re pl base sg xt row ror xi xd np nw nr nb m yt nrw nir yi yd inf9]
        refine s_perm (ws' := [oMo o th n a e dn (if e = 0 then i else n) dp po kd wh re pl base sg xt row ror xi xd np nw nr nb m yt nrw nir yi yd inf9, aB G a 3000 B, aB G yt 400 tt]) [2, 0, 1] (by decide) rfl rfl ?_
        refine s_iret X Y dX6_eightyFives_287 (rfl) ?_
        refine ⟨(if e = 0 then i else n), np, nw, m, tt, rfl, ?_, ?_, ?_, ?_⟩
        · (first | (exfalso; omega) | (exact stA_0 hr))
        · (first | (exfalso; omega) | (intro h; rw [hr]; have h9 : ¬ e = 0 := (fun q => h (by rw [if_pos q])); exact ⟨by rw [if_neg h9]; rfl, rfl⟩))
        · (first | (exfalso; omega) | (intro h; exact absurd h (by split <;> decide)))
        · (first | (exfalso; omega) | (exact (h3).2.2))
      · refine s_aload_n X dX6_eightyFives_25 rfl 2 rfl ?_
        refine s_aload_n X dX6_eightyFives_26 rfl 2 rfl ?_
        refine s_get X dX6_eightyFives_27 fl_X6_102 0 rfl rfl ?_
        refine s_callIV X lk_X6_63 [0, 1] [2] (wr := [aB G yt 400 tt]) rfl rfl (by decide) (by decide) (by decide) (c_X6_byteAt (kl K) G o a po xt xi xd yt yi yd th n e dn i dp kd wh pl base sg row ror np nw nb m nrw nir inf9 re nr B i (by assumption) (by assumption) (by omega)) rfl rfl dX6_eightyFives_30 rfl rfl (Nat.le_of_ble_eq_true rfl) (by decide) (fun z2 w2 h2 => ?_)
        obtain ⟨rfl, rfl⟩ := h2
        show SW K G 8 0 0 33 [(1, .long (lI g)), (3, .int (iI q)), (0, .ref o)] [.int (iI (bA B n i))] [aB G yt 400 tt, oMo o th n a e dn i dp po kd wh re pl base sg xt row ror xi xd np nw nr nb m yt nrw nir yi yd inf9, aB G a 3000 B]
        have q3 := bA_C n i (by assumption : ∀ j, B j < 256)
        refine s_istore X dX6_eightyFives_33 [(4, .int (iI (bA B n i))), (1, .long (lI g)), (3, .int (iI q)), (0, .ref o)] (by decide) rfl ?_
        refine s_iload X dX6_eightyFives_35 0 rfl ?_
        refine s_bipush 126 X dX6_eightyFives_37 (by decide) ?_
        refine s_icmp_ne X 173 dX6_eightyFives_39 (by decide) (by omega) (fun c39 => ?_) (fun c39 => ?_)
        · refine s_iload X dX6_eightyFives_173 0 rfl ?_
          refine s_bipush 122 X dX6_eightyFives_175 (by decide) ?_
          refine s_icmp_ne X 193 dX6_eightyFives_177 (by decide) (by omega) (fun c177 => ?_) (fun c177 => ?_)
          · refine s_iload X dX6_eightyFives_193 0 rfl ?_
            refine s_bipush 33 X dX6_eightyFives_195 (by decide) ?_
            refine s_icmp_lt X 256 dX6_eightyFives_197 (by decide) (by omega) (fun c197 => ?_) (fun c197 => ?_)
            · refine s_iload X dX6_eightyFives_256 0 rfl ?_
              refine s_callIS X lk_X6_46 [] [0, 1, 2] (wr := [aB G yt 400 tt, oMo o th n a e dn i dp po kd wh re pl base sg xt row ror xi xd np nw nr nb m yt nrw nir yi yd inf9, aB G a 3000 B]) rfl rfl (by decide) (by decide) (by decide) (c_X6_isBlank (kl K) G (bA B n i) (by omega)) dX6_eightyFives_258 rfl rfl (Nat.le_of_ble_eq_true rfl) (by decide) (fun z4 w4 h4 => ?_)
              obtain ⟨rfl, rfl⟩ := h4
              show SW K G 8 0 0 261 [(4, .int (iI (bA B n i))), (1, .long (lI g)), (3, .int (iI q)), (0, .ref o)] [.int (iI (tf (isW (bA B n i))))] [aB G yt 400 tt, oMo o th n a e dn i dp po kd wh re pl base sg xt row ror xi xd np nw nr nb m yt nrw nir yi yd inf9, aB G a 3000 B]
              refine s_tf_ne X 270 dX6_eightyFives_261 (by decide) (fun c261 => ?_) (fun c261 => ?_)
              · refine s_aload_n X dX6_eightyFives_270 rfl 3 rfl ?_
                refine s_dup X dX6_eightyFives_271 rfl ?_
                refine s_get X dX6_eightyFives_272 fl_X6_102 1 rfl rfl ?_
                refine s_iconst X dX6_eightyFives_275 ?_
                refine s_iadd X dX6_eightyFives_276 ?_
                refine s_put X dX6_eightyFives_277 fl_X6_102 tyX6_ok nmX6 1 rfl rfl (rfl) (rfl) (Nat.le_of_ble_eq_true rfl) [aB G yt 400 tt, oMo o th n a e dn (i + 1) dp po kd wh re pl base sg xt row ror xi xd np nw nr nb m yt nrw nir yi yd inf9, aB G a 3000 B] rfl ?_
                refine s_goto X 14 dX6_eightyFives_280 (by decide) ?_
                refine s_locs (lv' := [(1, .long (lI g)), (3, .int (iI q)), (0, .ref o)]) [1, 2, 3] rfl ?_
                refine s_perm (ws' := [oMo o th n a e dn (i + 1) dp po kd wh re pl base sg xt row ror xi xd np nw nr nb m yt nrw nir yi yd inf9, aB G a 3000 B, aB G yt 400 tt]) [1, 2, 0] (by decide) rfl rfl ?_
                exact ih9 (i + 1) g q m tt ol (by omega) (by omega) (h3) (by rw [← h2, e5S_s (i := i) (by omega), if_pos (by assumption)]) (by omega)
              · have hr : e5S B n (at9 + 2) 0 0 [] = (2, i, []) := by rw [← h2, e5S_s (i := i) (by omega), if_neg (by assumption), if_neg (by assumption), if_neg (by omega), if_pos (by omega)]
                refine s_aload_n X dX6_eightyFives_264 rfl 3 rfl ?_
                refine s_iconst X dX6_eightyFives_265 ?_
                refine s_callIV X lk_X6_138 [1] [0, 2] (wr := [aB G yt 400 tt, aB G a 3000 B]) rfl rfl (by decide) (by decide) (by decide) (c_X6_wrongByte (kl K) G o a po xt xi xd yt yi yd th n e dn i dp kd wh pl base sg row ror np nw nb m nrw nir inf9 re nr 2) rfl rfl dX6_eightyFives_266 rfl rfl (Nat.le_of_ble_eq_true rfl) (by decide) (fun z5 w5 h5 => ?_)
                obtain ⟨rfl, rfl⟩ := h5
                show SW K G 8 0 0 269 [(4, .int (iI (bA B n i))), (1, .long (lI g)), (3, .int (iI q)), (0, .ref o)] [.int (iI (-1 - 2))] [aB G yt 400 tt, aB G a 3000 B, oMo o th n a e dn (i + 1) dp po kd wh re pl base sg xt row ror xi xd i nw nr nb m yt nrw nir yi yd inf9]
                refine s_perm (ws' := [oMo o th n a e dn (i + 1) dp po kd wh re pl base sg xt row ror xi xd i nw nr nb m yt nrw nir yi yd inf9, aB G a 3000 B, aB G yt 400 tt]) [2, 1, 0] (by decide) rfl rfl ?_
                refine s_iret X Y dX6_eightyFives_269 (rfl) ?_
                refine ⟨(i + 1), i, nw, m, tt, rfl, ?_, ?_, ?_, ?_⟩
                · (first | (exfalso; omega) | (exact (show (-1 - 2 : Int) = -3 from rfl).trans (stA_2 hr)))
                · (first | (exfalso; omega) | (intro _; rw [hr]; exact ⟨rfl, rfl⟩))
                · (first | (exfalso; omega) | (intro h; exact absurd h (by decide)))
                · (first | (exfalso; omega) | (exact (h3).2.2))
            · refine s_iload X dX6_eightyFives_200 0 rfl ?_
              refine s_bipush 117 X dX6_eightyFives_202 (by decide) ?_
              refine s_icmp_gt X 256 dX6_eightyFives_204 (by decide) (by omega) (fun c204 => ?_) (fun c204 => ?_)
              · refine s_iload X dX6_eightyFives_256 0 rfl ?_
                refine s_callIS X lk_X6_46 [] [0, 1, 2] (wr := [aB G yt 400 tt, oMo o th n a e dn i dp po kd wh re pl base sg xt row ror xi xd np nw nr nb m yt nrw nir yi yd inf9, aB G a 3000 B]) rfl rfl (by decide) (by decide) (by decide) (c_X6_isBlank (kl K) G (bA B n i) (by omega)) dX6_eightyFives_258 rfl rfl (Nat.le_of_ble_eq_true rfl) (by decide) (fun z6 w6 h6 => ?_)
                obtain ⟨rfl, rfl⟩ := h6
                show SW K G 8 0 0 261 [(4, .int (iI (bA B n i))), (1, .long (lI g)), (3, .int (iI q)), (0, .ref o)] [.int (iI (tf (isW (bA B n i))))] [aB G yt 400 tt, oMo o th n a e dn i dp po kd wh re pl base sg xt row ror xi xd np nw nr nb m yt nrw nir yi yd inf9, aB G a 3000 B]
                refine s_tf_ne X 270 dX6_eightyFives_261 (by decide) (fun c261 => ?_) (fun c261 => ?_)
                · refine s_aload_n X dX6_eightyFives_270 rfl 3 rfl ?_
                  refine s_dup X dX6_eightyFives_271 rfl ?_
                  refine s_get X dX6_eightyFives_272 fl_X6_102 1 rfl rfl ?_
                  refine s_iconst X dX6_eightyFives_275 ?_
                  refine s_iadd X dX6_eightyFives_276 ?_
                  refine s_put X dX6_eightyFives_277 fl_X6_102 tyX6_ok nmX6 1 rfl rfl (rfl) (rfl) (Nat.le_of_ble_eq_true rfl) [aB G yt 400 tt, oMo o th n a e dn (i + 1) dp po kd wh re pl base sg xt row ror xi xd np nw nr nb m yt nrw nir yi yd inf9, aB G a 3000 B] rfl ?_
                  refine s_goto X 14 dX6_eightyFives_280 (by decide) ?_
                  refine s_locs (lv' := [(1, .long (lI g)), (3, .int (iI q)), (0, .ref o)]) [1, 2, 3] rfl ?_
                  refine s_perm (ws' := [oMo o th n a e dn (i + 1) dp po kd wh re pl base sg xt row ror xi xd np nw nr nb m yt nrw nir yi yd inf9, aB G a 3000 B, aB G yt 400 tt]) [1, 2, 0] (by decide) rfl rfl ?_
                  exact ih9 (i + 1) g q m tt ol (by omega) (by omega) (h3) (by rw [← h2, e5S_s (i := i) (by omega), if_pos (by assumption)]) (by omega)
                · have hr : e5S B n (at9 + 2) 0 0 [] = (2, i, []) := by rw [← h2, e5S_s (i := i) (by omega), if_neg (by assumption), if_neg (by assumption), if_neg (by omega), if_pos (by omega)]
                  refine s_aload_n X dX6_eightyFives_264 rfl 3 rfl ?_
                  refine s_iconst X dX6_eightyFives_265 ?_
                  refine s_callIV X lk_X6_138 [1] [0, 2] (wr := [aB G yt 400 tt, aB G a 3000 B]) rfl rfl (by decide) (by decide) (by decide) (c_X6_wrongByte (kl K) G o a po xt xi xd yt yi yd th n e dn i dp kd wh pl base sg row ror np nw nb m nrw nir inf9 re nr 2) rfl rfl dX6_eightyFives_266 rfl rfl (Nat.le_of_ble_eq_true rfl) (by decide) (fun z7 w7 h7 => ?_)
                  obtain ⟨rfl, rfl⟩ := h7
                  show SW K G 8 0 0 269 [(4, .int (iI (bA B n i))), (1, .long (lI g)), (3, .int (iI q)), (0, .ref o)] [.int (iI (-1 - 2))] [aB G yt 400 tt, aB G a 3000 B, oMo o th n a e dn (i + 1) dp po kd wh re pl base sg xt row ror xi xd i nw nr nb m yt nrw nir yi yd inf9]
                  refine s_perm (ws' := [oMo o th n a e dn (i + 1) dp po kd wh re pl base sg xt row ror xi xd i nw nr nb m yt nrw nir yi yd inf9, aB G a 3000 B, aB G yt 400 tt]) [2, 1, 0] (by decide) rfl rfl ?_
                  refine s_iret X Y dX6_eightyFives_269 (rfl) ?_
                  refine ⟨(i + 1), i, nw, m, tt, rfl, ?_, ?_, ?_, ?_⟩
                  · (first | (exfalso; omega) | (exact (show (-1 - 2 : Int) = -3 from rfl).trans (stA_2 hr)))
                  · (first | (exfalso; omega) | (intro _; rw [hr]; exact ⟨rfl, rfl⟩))
                  · (first | (exfalso; omega) | (intro h; exact absurd h (by decide)))
                  · (first | (exfalso; omega) | (exact (h3).2.2))
              · refine s_ldc2 85 X dX6_eightyFives_207 tg915 (by decide) ?_
                refine s_lload_n X dX6_eightyFives_210 rfl 1 rfl ?_
                refine s_lmul X dX6_eightyFives_211 ?_
                refine s_iload X dX6_eightyFives_212 0 rfl ?_
                refine s_i2l X dX6_eightyFives_214 (by omega) ?_
                refine s_ladd X dX6_eightyFives_215 ?_
                refine s_ldc2 33 X dX6_eightyFives_216 tg926 (by decide) ?_
                refine s_lsub X dX6_eightyFives_219 ?_
                refine s_lstore_n X dX6_eightyFives_220 rfl [(1, .long (lI (((85 * g) + (bA B n i)) - 33))), (4, .int (iI (bA B n i))), (3, .int (iI q)), (0, .ref o)] (by decide) rfl ?_
                refine s_iinc (z := q + 1) X dX6_eightyFives_221 2 rfl (by first | rfl | omega) [(3, .int (iI (q + 1))), (1, .long (lI (((85 * g) + (bA B n i)) - 33))), (4, .int (iI (bA B n i))), (0, .ref o)] (by decide) rfl ?_
                refine s_iload_n X dX6_eightyFives_224 rfl 0 rfl ?_
                refine s_iconst X dX6_eightyFives_225 ?_
                refine s_icmp_ne X 270 dX6_eightyFives_226 (by decide) (by omega) (fun c226 => ?_) (fun c226 => ?_)
                · refine s_aload_n X dX6_eightyFives_270 rfl 3 rfl ?_
                  refine s_dup X dX6_eightyFives_271 rfl ?_
                  refine s_get X dX6_eightyFives_272 fl_X6_102 1 rfl rfl ?_
                  refine s_iconst X dX6_eightyFives_275 ?_
                  refine s_iadd X dX6_eightyFives_276 ?_
                  refine s_put X dX6_eightyFives_277 fl_X6_102 tyX6_ok nmX6 1 rfl rfl (rfl) (rfl) (Nat.le_of_ble_eq_true rfl) [aB G yt 400 tt, oMo o th n a e dn (i + 1) dp po kd wh re pl base sg xt row ror xi xd np nw nr nb m yt nrw nir yi yd inf9, aB G a 3000 B] rfl ?_
                  refine s_goto X 14 dX6_eightyFives_280 (by decide) ?_
                  refine s_locs (lv' := [(1, .long (lI (((85 * g) + (bA B n i)) - 33))), (3, .int (iI (q + 1))), (0, .ref o)]) [1, 0, 3] rfl ?_
                  refine s_perm (ws' := [oMo o th n a e dn (i + 1) dp po kd wh re pl base sg xt row ror xi xd np nw nr nb m yt nrw nir yi yd inf9, aB G a 3000 B, aB G yt 400 tt]) [1, 2, 0] (by decide) rfl rfl ?_
                  exact ih9 (i + 1) (((85 * g) + (bA B n i)) - 33) (q + 1) m tt ol (by omega) (by omega) (h3) (by rw [← h2, e5S_s (i := i) (by omega), if_neg (by omega), if_neg (by assumption), if_neg (by omega), if_neg (by omega), if_neg (by omega), if_neg (by omega), show g * 85 + bA B n i - 33 = (85 * g + bA B n i - 33) by omega]) (by omega)
                · refine s_lload_n X dX6_eightyFives_229 rfl 1 rfl ?_
                  refine s_ldc2 4294967296 X dX6_eightyFives_230 tg865 (by decide) ?_
                  refine s_lif_lt X 243 dX6_eightyFives_233 dX6_eightyFives_234 (by decide) (by omega) (fun c233 => ?_) (fun c233 => ?_)
                  · refine s_aload_n X dX6_eightyFives_243 rfl 3 rfl ?_
                    refine s_lload_n X dX6_eightyFives_244 rfl 1 rfl ?_
                    refine s_iconst X dX6_eightyFives_245 ?_
                    refine s_callVV X lk_X6_147 [1, 0] [2] (wr := [aB G a 3000 B]) rfl rfl (by decide) (by decide) (by decide) (c_X6_some (kl K) G o a po xt xi xd yt yi yd th n e dn i dp kd wh pl base sg row ror np nw nb m nrw nir inf9 re nr B tt ol (((85 * g) + (bA B n i)) - 33) 4 (by assumption) (by omega) (by omega) (by omega)) rfl rfl dX6_eightyFives_246 rfl rfl (Nat.le_of_ble_eq_true rfl) (by decide) (fun w8 h8 => ?_)
                    obtain ⟨ns28, t28, rfl, f8_0, f8_1⟩ := h8
                    show SW K G 8 0 0 249 [(3, .int (iI (q + 1))), (1, .long (lI (((85 * g) + (bA B n i)) - 33))), (4, .int (iI (bA B n i))), (0, .ref o)] [] [aB G a 3000 B, oMo o th n a e dn i dp po kd wh re pl base sg xt row ror xi xd np nw nr nb ns28 yt nrw nir yi yd inf9, aB G yt 400 t28]
                    have gT := f8_0
                    have gN := f8_1
                    refine s_lconst0 X dX6_eightyFives_249 ?_
                    refine s_lstore_n X dX6_eightyFives_250 rfl [(1, .long (lI 0)), (3, .int (iI (q + 1))), (4, .int (iI (bA B n i))), (0, .ref o)] (by decide) rfl ?_
                    refine s_iconst X dX6_eightyFives_251 ?_
                    refine s_istore_n X dX6_eightyFives_252 rfl [(3, .int (iI 0)), (1, .long (lI 0)), (4, .int (iI (bA B n i))), (0, .ref o)] (by decide) rfl ?_
                    refine s_goto X 270 dX6_eightyFives_253 (by decide) ?_
                    refine s_aload_n X dX6_eightyFives_270 rfl 3 rfl ?_
                    refine s_dup X dX6_eightyFives_271 rfl ?_
                    refine s_get X dX6_eightyFives_272 fl_X6_102 1 rfl rfl ?_
                    refine s_iconst X dX6_eightyFives_275 ?_
                    refine s_iadd X dX6_eightyFives_276 ?_
                    refine s_put X dX6_eightyFives_277 fl_X6_102 tyX6_ok nmX6 1 rfl rfl (rfl) (rfl) (Nat.le_of_ble_eq_true rfl) [aB G a 3000 B, oMo o th n a e dn (i + 1) dp po kd wh re pl base sg xt row ror xi xd np nw nr nb ns28 yt nrw nir yi yd inf9, aB G yt 400 t28] rfl ?_
                    refine s_goto X 14 dX6_eightyFives_280 (by decide) ?_
                    refine s_locs (lv' := [(1, .long (lI 0)), (3, .int (iI 0)), (0, .ref o)]) [1, 0, 3] rfl ?_
                    refine s_perm (ws' := [oMo o th n a e dn (i + 1) dp po kd wh re pl base sg xt row ror xi xd np nw nr nb ns28 yt nrw nir yi yd inf9, aB G a 3000 B, aB G yt 400 t28]) [1, 0, 2] (by decide) rfl rfl ?_
                    exact ih9 (i + 1) 0 0 ns28 t28 (ol ++ hiL (85 * g + bA B n i - 33) 4) (by omega) (by omega) (gT) (by rw [← h2, e5S_s (i := i) (by omega), if_neg (by omega), if_neg (by assumption), if_neg (by omega), if_neg (by omega), if_neg (by omega), if_pos (by omega), show g * 85 + bA B n i - 33 = (85 * g + bA B n i - 33) by omega]) (by omega)
                  · have hr : e5S B n (at9 + 2) 0 0 [] = (2, i, []) := by rw [← h2, e5S_s (i := i) (by omega), if_neg (by omega), if_neg (by assumption), if_neg (by omega), if_neg (by omega), if_pos (by omega)]
                    refine s_aload_n X dX6_eightyFives_237 rfl 3 rfl ?_
                    refine s_iconst X dX6_eightyFives_238 ?_
                    refine s_callIV X lk_X6_138 [1] [0, 2] (wr := [aB G yt 400 tt, aB G a 3000 B]) rfl rfl (by decide) (by decide) (by decide) (c_X6_wrongByte (kl K) G o a po xt xi xd yt yi yd th n e dn i dp kd wh pl base sg row ror np nw nb m nrw nir inf9 re nr 2) rfl rfl dX6_eightyFives_239 rfl rfl (Nat.le_of_ble_eq_true rfl) (by decide) (fun z9 w9 h9 => ?_)
                    obtain ⟨rfl, rfl⟩ := h9
                    show SW K G 8 0 0 242 [(3, .int (iI (q + 1))), (1, .long (lI (((85 * g) + (bA B n i)) - 33))), (4, .int (iI (bA B n i))), (0, .ref o)] [.int (iI (-1 - 2))] [aB G yt 400 tt, aB G a 3000 B, oMo o th n a e dn (i + 1) dp po kd wh re pl base sg xt row ror xi xd i nw nr nb m yt nrw nir yi yd inf9]
                    refine s_perm (ws' := [oMo o th n a e dn (i + 1) dp po kd wh re pl base sg xt row ror xi xd i nw nr nb m yt nrw nir yi yd inf9, aB G a 3000 B, aB G yt 400 tt]) [2, 1, 0] (by decide) rfl rfl ?_
                    refine s_iret X Y dX6_eightyFives_242 (rfl) ?_
                    refine ⟨(i + 1), i, nw, m, tt, rfl, ?_, ?_, ?_, ?_⟩
                    · (first | (exfalso; omega) | (exact (show (-1 - 2 : Int) = -3 from rfl).trans (stA_2 hr)))
                    · (first | (exfalso; omega) | (intro _; rw [hr]; exact ⟨rfl, rfl⟩))
                    · (first | (exfalso; omega) | (intro h; exact absurd h (by decide)))
                    · (first | (exfalso; omega) | (exact (h3).2.2))
          · refine s_iload_n X dX6_eightyFives_180 rfl 2 rfl ?_
            refine s_if_ne X 193 dX6_eightyFives_181 (by decide) (by omega) (fun c181 => ?_) (fun c181 => ?_)
            · refine s_iload X dX6_eightyFives_193 0 rfl ?_
              refine s_bipush 33 X dX6_eightyFives_195 (by decide) ?_
              refine s_icmp_lt X 256 dX6_eightyFives_197 (by decide) (by omega) (fun c197 => ?_) (fun c197 => ?_)
              · refine s_iload X dX6_eightyFives_256 0 rfl ?_
                refine s_callIS X lk_X6_46 [] [0, 1, 2] (wr := [aB G yt 400 tt, oMo o th n a e dn i dp po kd wh re pl base sg xt row ror xi xd np nw nr nb m yt nrw nir yi yd inf9, aB G a 3000 B]) rfl rfl (by decide) (by decide) (by decide) (c_X6_isBlank (kl K) G (bA B n i) (by omega)) dX6_eightyFives_258 rfl rfl (Nat.le_of_ble_eq_true rfl) (by decide) (fun z10 w10 h10 => ?_)
                obtain ⟨rfl, rfl⟩ := h10
                show SW K G 8 0 0 261 [(4, .int (iI (bA B n i))), (1, .long (lI g)), (3, .int (iI q)), (0, .ref o)] [.int (iI (tf (isW (bA B n i))))] [aB G yt 400 tt, oMo o th n a e dn i dp po kd wh re pl base sg xt row ror xi xd np nw nr nb m yt nrw nir yi yd inf9, aB G a 3000 B]
                refine s_tf_ne X 270 dX6_eightyFives_261 (by decide) (fun c261 => ?_) (fun c261 => ?_)
                · refine s_aload_n X dX6_eightyFives_270 rfl 3 rfl ?_
                  refine s_dup X dX6_eightyFives_271 rfl ?_
                  refine s_get X dX6_eightyFives_272 fl_X6_102 1 rfl rfl ?_
                  refine s_iconst X dX6_eightyFives_275 ?_
                  refine s_iadd X dX6_eightyFives_276 ?_
                  refine s_put X dX6_eightyFives_277 fl_X6_102 tyX6_ok nmX6 1 rfl rfl (rfl) (rfl) (Nat.le_of_ble_eq_true rfl) [aB G yt 400 tt, oMo o th n a e dn (i + 1) dp po kd wh re pl base sg xt row ror xi xd np nw nr nb m yt nrw nir yi yd inf9, aB G a 3000 B] rfl ?_
                  refine s_goto X 14 dX6_eightyFives_280 (by decide) ?_
                  refine s_locs (lv' := [(1, .long (lI g)), (3, .int (iI q)), (0, .ref o)]) [1, 2, 3] rfl ?_
                  refine s_perm (ws' := [oMo o th n a e dn (i + 1) dp po kd wh re pl base sg xt row ror xi xd np nw nr nb m yt nrw nir yi yd inf9, aB G a 3000 B, aB G yt 400 tt]) [1, 2, 0] (by decide) rfl rfl ?_
                  exact ih9 (i + 1) g q m tt ol (by omega) (by omega) (h3) (by rw [← h2, e5S_s (i := i) (by omega), if_pos (by assumption)]) (by omega)
                · have hr : e5S B n (at9 + 2) 0 0 [] = (2, i, []) := by rw [← h2, e5S_s (i := i) (by omega), if_neg (by assumption), if_neg (by assumption), if_neg (by omega), if_pos (by omega)]
                  refine s_aload_n X dX6_eightyFives_264 rfl 3 rfl ?_
                  refine s_iconst X dX6_eightyFives_265 ?_
                  refine s_callIV X lk_X6_138 [1] [0, 2] (wr := [aB G yt 400 tt, aB G a 3000 B]) rfl rfl (by decide) (by decide) (by decide) (c_X6_wrongByte (kl K) G o a po xt xi xd yt yi yd th n e dn i dp kd wh pl base sg row ror np nw nb m nrw nir inf9 re nr 2) rfl rfl dX6_eightyFives_266 rfl rfl (Nat.le_of_ble_eq_true rfl) (by decide) (fun z11 w11 h11 => ?_)
                  obtain ⟨rfl, rfl⟩ := h11
                  show SW K G 8 0 0 269 [(4, .int (iI (bA B n i))), (1, .long (lI g)), (3, .int (iI q)), (0, .ref o)] [.int (iI (-1 - 2))] [aB G yt 400 tt, aB G a 3000 B, oMo o th n a e dn (i + 1) dp po kd wh re pl base sg xt row ror xi xd i nw nr nb m yt nrw nir yi yd inf9]
                  refine s_perm (ws' := [oMo o th n a e dn (i + 1) dp po kd wh re pl base sg xt row ror xi xd i nw nr nb m yt nrw nir yi yd inf9, aB G a 3000 B, aB G yt 400 tt]) [2, 1, 0] (by decide) rfl rfl ?_
                  refine s_iret X Y dX6_eightyFives_269 (rfl) ?_
                  refine ⟨(i + 1), i, nw, m, tt, rfl, ?_, ?_, ?_, ?_⟩
                  · (first | (exfalso; omega) | (exact (show (-1 - 2 : Int) = -3 from rfl).trans (stA_2 hr)))
                  · (first | (exfalso; omega) | (intro _; rw [hr]; exact ⟨rfl, rfl⟩))
                  · (first | (exfalso; omega) | (intro h; exact absurd h (by decide)))
                  · (first | (exfalso; omega) | (exact (h3).2.2))
              · refine s_iload X dX6_eightyFives_200 0 rfl ?_
                refine s_bipush 117 X dX6_eightyFives_202 (by decide) ?_
                refine s_icmp_gt X 256 dX6_eightyFives_204 (by decide) (by omega) (fun c204 => ?_) (fun c204 => ?_)
                · refine s_iload X dX6_eightyFives_256 0 rfl ?_
                  refine s_callIS X lk_X6_46 [] [0, 1, 2] (wr := [aB G yt 400 tt, oMo o th n a e dn i dp po kd wh re pl base sg xt row ror xi xd np nw nr nb m yt nrw nir yi yd inf9, aB G a 3000 B]) rfl rfl (by decide) (by decide) (by decide) (c_X6_isBlank (kl K) G (bA B n i) (by omega)) dX6_eightyFives_258 rfl rfl (Nat.le_of_ble_eq_true rfl) (by decide) (fun z12 w12 h12 => ?_)
                  obtain ⟨rfl, rfl⟩ := h12
                  show SW K G 8 0 0 261 [(4, .int (iI (bA B n i))), (1, .long (lI g)), (3, .int (iI q)), (0, .ref o)] [.int (iI (tf (isW (bA B n i))))] [aB G yt 400 tt, oMo o th n a e dn i dp po kd wh re pl base sg xt row ror xi xd np nw nr nb m yt nrw nir yi yd inf9, aB G a 3000 B]
                  refine s_tf_ne X 270 dX6_eightyFives_261 (by decide) (fun c261 => ?_) (fun c261 => ?_)
                  · refine s_aload_n X dX6_eightyFives_270 rfl 3 rfl ?_
                    refine s_dup X dX6_eightyFives_271 rfl ?_
                    refine s_get X dX6_eightyFives_272 fl_X6_102 1 rfl rfl ?_
                    refine s_iconst X dX6_eightyFives_275 ?_
                    refine s_iadd X dX6_eightyFives_276 ?_
                    refine s_put X dX6_eightyFives_277 fl_X6_102 tyX6_ok nmX6 1 rfl rfl (rfl) (rfl) (Nat.le_of_ble_eq_true rfl) [aB G yt 400 tt, oMo o th n a e dn (i + 1) dp po kd wh re pl base sg xt row ror xi xd np nw nr nb m yt nrw nir yi yd inf9, aB G a 3000 B] rfl ?_
                    refine s_goto X 14 dX6_eightyFives_280 (by decide) ?_
                    refine s_locs (lv' := [(1, .long (lI g)), (3, .int (iI q)), (0, .ref o)]) [1, 2, 3] rfl ?_
                    refine s_perm (ws' := [oMo o th n a e dn (i + 1) dp po kd wh re pl base sg xt row ror xi xd np nw nr nb m yt nrw nir yi yd inf9, aB G a 3000 B, aB G yt 400 tt]) [1, 2, 0] (by decide) rfl rfl ?_
                    exact ih9 (i + 1) g q m tt ol (by omega) (by omega) (h3) (by rw [← h2, e5S_s (i := i) (by omega), if_pos (by assumption)]) (by omega)
                  · have hr : e5S B n (at9 + 2) 0 0 [] = (2, i, []) := by rw [← h2, e5S_s (i := i) (by omega), if_neg (by assumption), if_neg (by assumption), if_neg (by omega), if_pos (by omega)]
                    refine s_aload_n X dX6_eightyFives_264 rfl 3 rfl ?_
                    refine s_iconst X dX6_eightyFives_265 ?_
                    refine s_callIV X lk_X6_138 [1] [0, 2] (wr := [aB G yt 400 tt, aB G a 3000 B]) rfl rfl (by decide) (by decide) (by decide) (c_X6_wrongByte (kl K) G o a po xt xi xd yt yi yd th n e dn i dp kd wh pl base sg row ror np nw nb m nrw nir inf9 re nr 2) rfl rfl dX6_eightyFives_266 rfl rfl (Nat.le_of_ble_eq_true rfl) (by decide) (fun z13 w13 h13 => ?_)
                    obtain ⟨rfl, rfl⟩ := h13
                    show SW K G 8 0 0 269 [(4, .int (iI (bA B n i))), (1, .long (lI g)), (3, .int (iI q)), (0, .ref o)] [.int (iI (-1 - 2))] [aB G yt 400 tt, aB G a 3000 B, oMo o th n a e dn (i + 1) dp po kd wh re pl base sg xt row ror xi xd i nw nr nb m yt nrw nir yi yd inf9]
                    refine s_perm (ws' := [oMo o th n a e dn (i + 1) dp po kd wh re pl base sg xt row ror xi xd i nw nr nb m yt nrw nir yi yd inf9, aB G a 3000 B, aB G yt 400 tt]) [2, 1, 0] (by decide) rfl rfl ?_
                    refine s_iret X Y dX6_eightyFives_269 (rfl) ?_
                    refine ⟨(i + 1), i, nw, m, tt, rfl, ?_, ?_, ?_, ?_⟩
                    · (first | (exfalso; omega) | (exact (show (-1 - 2 : Int) = -3 from rfl).trans (stA_2 hr)))
                    · (first | (exfalso; omega) | (intro _; rw [hr]; exact ⟨rfl, rfl⟩))
                    · (first | (exfalso; omega) | (intro h; exact absurd h (by decide)))
                    · (first | (exfalso; omega) | (exact (h3).2.2))
                · refine s_ldc2 85 X dX6_eightyFives_207 tg915 (by decide) ?_
                  refine s_lload_n X dX6_eightyFives_210 rfl 1 rfl ?_
                  refine s_lmul X dX6_eightyFives_211 ?_
                  refine s_iload X dX6_eightyFives_212 0 rfl ?_
                  refine s_i2l X dX6_eightyFives_214 (by omega) ?_
                  refine s_ladd X dX6_eightyFives_215 ?_
                  refine s_ldc2 33 X dX6_eightyFives_216 tg926 (by decide) ?_
                  refine s_lsub X dX6_eightyFives_219 ?_
                  refine s_lstore_n X dX6_eightyFives_220 rfl [(1, .long (lI (((85 * g) + (bA B n i)) - 33))), (4, .int (iI (bA B n i))), (3, .int (iI q)), (0, .ref o)] (by decide) rfl ?_
                  refine s_iinc (z := q + 1) X dX6_eightyFives_221 2 rfl (by first | rfl | omega) [(3, .int (iI (q + 1))), (1, .long (lI (((85 * g) + (bA B n i)) - 33))), (4, .int (iI (bA B n i))), (0, .ref o)] (by decide) rfl ?_
                  refine s_iload_n X dX6_eightyFives_224 rfl 0 rfl ?_
                  refine s_iconst X dX6_eightyFives_225 ?_
                  refine s_icmp_ne X 270 dX6_eightyFives_226 (by decide) (by omega) (fun c226 => ?_) (fun c226 => ?_)
                  · refine s_aload_n X dX6_eightyFives_270 rfl 3 rfl ?_
                    refine s_dup X dX6_eightyFives_271 rfl ?_
                    refine s_get X dX6_eightyFives_272 fl_X6_102 1 rfl rfl ?_
                    refine s_iconst X dX6_eightyFives_275 ?_
                    refine s_iadd X dX6_eightyFives_276 ?_
                    refine s_put X dX6_eightyFives_277 fl_X6_102 tyX6_ok nmX6 1 rfl rfl (rfl) (rfl) (Nat.le_of_ble_eq_true rfl) [aB G yt 400 tt, oMo o th n a e dn (i + 1) dp po kd wh re pl base sg xt row ror xi xd np nw nr nb m yt nrw nir yi yd inf9, aB G a 3000 B] rfl ?_
                    refine s_goto X 14 dX6_eightyFives_280 (by decide) ?_
                    refine s_locs (lv' := [(1, .long (lI (((85 * g) + (bA B n i)) - 33))), (3, .int (iI (q + 1))), (0, .ref o)]) [1, 0, 3] rfl ?_
                    refine s_perm (ws' := [oMo o th n a e dn (i + 1) dp po kd wh re pl base sg xt row ror xi xd np nw nr nb m yt nrw nir yi yd inf9, aB G a 3000 B, aB G yt 400 tt]) [1, 2, 0] (by decide) rfl rfl ?_
                    exact ih9 (i + 1) (((85 * g) + (bA B n i)) - 33) (q + 1) m tt ol (by omega) (by omega) (h3) (by rw [← h2, e5S_s (i := i) (by omega), if_neg (by omega), if_neg (by assumption), if_neg (by omega), if_neg (by omega), if_neg (by omega), if_neg (by omega), show g * 85 + bA B n i - 33 = (85 * g + bA B n i - 33) by omega]) (by omega)
                  · refine s_lload_n X dX6_eightyFives_229 rfl 1 rfl ?_
                    refine s_ldc2 4294967296 X dX6_eightyFives_230 tg865 (by decide) ?_
                    refine s_lif_lt X 243 dX6_eightyFives_233 dX6_eightyFives_234 (by decide) (by omega) (fun c233 => ?_) (fun c233 => ?_)
                    · refine s_aload_n X dX6_eightyFives_243 rfl 3 rfl ?_
                      refine s_lload_n X dX6_eightyFives_244 rfl 1 rfl ?_
                      refine s_iconst X dX6_eightyFives_245 ?_
                      refine s_callVV X lk_X6_147 [1, 0] [2] (wr := [aB G a 3000 B]) rfl rfl (by decide) (by decide) (by decide) (c_X6_some (kl K) G o a po xt xi xd yt yi yd th n e dn i dp kd wh pl base sg row ror np nw nb m nrw nir inf9 re nr B tt ol (((85 * g) + (bA B n i)) - 33) 4 (by assumption) (by omega) (by omega) (by omega)) rfl rfl dX6_eightyFives_246 rfl rfl (Nat.le_of_ble_eq_true rfl) (by decide) (fun w14 h14 => ?_)
                      obtain ⟨ns214, t214, rfl, f14_0, f14_1⟩ := h14
                      show SW K G 8 0 0 249 [(3, .int (iI (q + 1))), (1, .long (lI (((85 * g) + (bA B n i)) - 33))), (4, .int (iI (bA B n i))), (0, .ref o)] [] [aB G a 3000 B, oMo o th n a e dn i dp po kd wh re pl base sg xt row ror xi xd np nw nr nb ns214 yt nrw nir yi yd inf9, aB G yt 400 t214]
                      have gT := f14_0
                      have gN := f14_1
                      refine s_lconst0 X dX6_eightyFives_249 ?_
                      refine s_lstore_n X dX6_eightyFives_250 rfl [(1, .long (lI 0)), (3, .int (iI (q + 1))), (4, .int (iI (bA B n i))), (0, .ref o)] (by decide) rfl ?_
                      refine s_iconst X dX6_eightyFives_251 ?_
                      refine s_istore_n X dX6_eightyFives_252 rfl [(3, .int (iI 0)), (1, .long (lI 0)), (4, .int (iI (bA B n i))), (0, .ref o)] (by decide) rfl ?_
                      refine s_goto X 270 dX6_eightyFives_253 (by decide) ?_
                      refine s_aload_n X dX6_eightyFives_270 rfl 3 rfl ?_
                      refine s_dup X dX6_eightyFives_271 rfl ?_
                      refine s_get X dX6_eightyFives_272 fl_X6_102 1 rfl rfl ?_
                      refine s_iconst X dX6_eightyFives_275 ?_
                      refine s_iadd X dX6_eightyFives_276 ?_
                      refine s_put X dX6_eightyFives_277 fl_X6_102 tyX6_ok nmX6 1 rfl rfl (rfl) (rfl) (Nat.le_of_ble_eq_true rfl) [aB G a 3000 B, oMo o th n a e dn (i + 1) dp po kd wh re pl base sg xt row ror xi xd np nw nr nb ns214 yt nrw nir yi yd inf9, aB G yt 400 t214] rfl ?_
                      refine s_goto X 14 dX6_eightyFives_280 (by decide) ?_
                      refine s_locs (lv' := [(1, .long (lI 0)), (3, .int (iI 0)), (0, .ref o)]) [1, 0, 3] rfl ?_
                      refine s_perm (ws' := [oMo o th n a e dn (i + 1) dp po kd wh re pl base sg xt row ror xi xd np nw nr nb ns214 yt nrw nir yi yd inf9, aB G a 3000 B, aB G yt 400 t214]) [1, 0, 2] (by decide) rfl rfl ?_
                      exact ih9 (i + 1) 0 0 ns214 t214 (ol ++ hiL (85 * g + bA B n i - 33) 4) (by omega) (by omega) (gT) (by rw [← h2, e5S_s (i := i) (by omega), if_neg (by omega), if_neg (by assumption), if_neg (by omega), if_neg (by omega), if_neg (by omega), if_pos (by omega), show g * 85 + bA B n i - 33 = (85 * g + bA B n i - 33) by omega]) (by omega)
                    · have hr : e5S B n (at9 + 2) 0 0 [] = (2, i, []) := by rw [← h2, e5S_s (i := i) (by omega), if_neg (by omega), if_neg (by assumption), if_neg (by omega), if_neg (by omega), if_pos (by omega)]
                      refine s_aload_n X dX6_eightyFives_237 rfl 3 rfl ?_
                      refine s_iconst X dX6_eightyFives_238 ?_
                      refine s_callIV X lk_X6_138 [1] [0, 2] (wr := [aB G yt 400 tt, aB G a 3000 B]) rfl rfl (by decide) (by decide) (by decide) (c_X6_wrongByte (kl K) G o a po xt xi xd yt yi yd th n e dn i dp kd wh pl base sg row ror np nw nb m nrw nir inf9 re nr 2) rfl rfl dX6_eightyFives_239 rfl rfl (Nat.le_of_ble_eq_true rfl) (by decide) (fun z15 w15 h15 => ?_)
                      obtain ⟨rfl, rfl⟩ := h15
                      show SW K G 8 0 0 242 [(3, .int (iI (q + 1))), (1, .long (lI (((85 * g) + (bA B n i)) - 33))), (4, .int (iI (bA B n i))), (0, .ref o)] [.int (iI (-1 - 2))] [aB G yt 400 tt, aB G a 3000 B, oMo o th n a e dn (i + 1) dp po kd wh re pl base sg xt row ror xi xd i nw nr nb m yt nrw nir yi yd inf9]
                      refine s_perm (ws' := [oMo o th n a e dn (i + 1) dp po kd wh re pl base sg xt row ror xi xd i nw nr nb m yt nrw nir yi yd inf9, aB G a 3000 B, aB G yt 400 tt]) [2, 1, 0] (by decide) rfl rfl ?_
                      refine s_iret X Y dX6_eightyFives_242 (rfl) ?_
                      refine ⟨(i + 1), i, nw, m, tt, rfl, ?_, ?_, ?_, ?_⟩
                      · (first | (exfalso; omega) | (exact (show (-1 - 2 : Int) = -3 from rfl).trans (stA_2 hr)))
                      · (first | (exfalso; omega) | (intro _; rw [hr]; exact ⟨rfl, rfl⟩))
                      · (first | (exfalso; omega) | (intro h; exact absurd h (by decide)))
                      · (first | (exfalso; omega) | (exact (h3).2.2))
            · refine s_aload_n X dX6_eightyFives_184 rfl 3 rfl ?_
              refine s_lconst0 X dX6_eightyFives_185 ?_
              refine s_iconst X dX6_eightyFives_186 ?_
              refine s_callVV X lk_X6_147 [1, 0] [2] (wr := [aB G a 3000 B]) rfl rfl (by decide) (by decide) (by decide) (c_X6_some (kl K) G o a po xt xi xd yt yi yd th n e dn i dp kd wh pl base sg row ror np nw nb m nrw nir inf9 re nr B tt ol 0 4 (by assumption) (by omega) (by omega) (by omega)) rfl rfl dX6_eightyFives_187 rfl rfl (Nat.le_of_ble_eq_true rfl) (by decide) (fun w16 h16 => ?_)
              obtain ⟨ns216, t216, rfl, f16_0, f16_1⟩ := h16
              show SW K G 8 0 0 190 [(4, .int (iI (bA B n i))), (1, .long (lI g)), (3, .int (iI q)), (0, .ref o)] [] [aB G a 3000 B, oMo o th n a e dn i dp po kd wh re pl base sg xt row ror xi xd np nw nr nb ns216 yt nrw nir yi yd inf9, aB G yt 400 t216]
              have gT := f16_0
              have gN := f16_1
              refine s_goto X 270 dX6_eightyFives_190 (by decide) ?_
              refine s_aload_n X dX6_eightyFives_270 rfl 3 rfl ?_
              refine s_dup X dX6_eightyFives_271 rfl ?_
              refine s_get X dX6_eightyFives_272 fl_X6_102 1 rfl rfl ?_
              refine s_iconst X dX6_eightyFives_275 ?_
              refine s_iadd X dX6_eightyFives_276 ?_
              refine s_put X dX6_eightyFives_277 fl_X6_102 tyX6_ok nmX6 1 rfl rfl (rfl) (rfl) (Nat.le_of_ble_eq_true rfl) [aB G a 3000 B, oMo o th n a e dn (i + 1) dp po kd wh re pl base sg xt row ror xi xd np nw nr nb ns216 yt nrw nir yi yd inf9, aB G yt 400 t216] rfl ?_
              refine s_goto X 14 dX6_eightyFives_280 (by decide) ?_
              refine s_locs (lv' := [(1, .long (lI g)), (3, .int (iI q)), (0, .ref o)]) [1, 2, 3] rfl ?_
              refine s_perm (ws' := [oMo o th n a e dn (i + 1) dp po kd wh re pl base sg xt row ror xi xd np nw nr nb ns216 yt nrw nir yi yd inf9, aB G a 3000 B, aB G yt 400 t216]) [1, 0, 2] (by decide) rfl rfl ?_
              exact ih9 (i + 1) g q ns216 t216 (ol ++ hiL 0 4) (by omega) (by omega) (gT) (by rw [← h2, e5S_s (i := i) (by omega), if_neg (by omega), if_neg (by assumption), if_pos ⟨by assumption, by omega⟩]) (by omega)
        · have j76 : ∀ (f : Int) (hff : f = fl5 g q ∨ q = 0) (hfR : 0 ≤ f ∧ f < 4437053125), SW K G 8 0 0 76 [(5, .long (lI f)), (4, .int (iI (bA B n i))), (1, .long (lI g)), (3, .int (iI q)), (0, .ref o)] [] [aB G yt 400 tt, oMo o th n a e dn i dp po kd wh re pl base sg xt row ror xi xd np nw nr nb m yt nrw nir yi yd inf9, aB G a 3000 B] := by
            intro f hff hfR
            refine s_iload_n X dX6_eightyFives_76 rfl 3 rfl ?_
            refine s_iconst X dX6_eightyFives_77 ?_
            refine s_icmp_eq X 94 dX6_eightyFives_78 (by decide) (by omega) (fun c78 => ?_) (fun c78 => ?_)
            · have hr : e5S B n (at9 + 2) 0 0 [] = (2, i, []) := by
                rw [← h2, e5S_s (i := i) (by omega), if_neg (by omega), if_pos (by assumption)]
                unfold e5E
                rw [if_pos]
                rcases hff with hff | hff
                · rw [← hff]; omega
                · omega
              refine s_aload_n X dX6_eightyFives_94 rfl 4 rfl ?_
              refine s_iconst X dX6_eightyFives_95 ?_
              refine s_callIV X lk_X6_138 [1] [0, 2] (wr := [aB G yt 400 tt, aB G a 3000 B]) rfl rfl (by decide) (by decide) (by decide) (c_X6_wrongByte (kl K) G o a po xt xi xd yt yi yd th n e dn i dp kd wh pl base sg row ror np nw nb m nrw nir inf9 re nr 2) rfl rfl dX6_eightyFives_96 rfl rfl (Nat.le_of_ble_eq_true rfl) (by decide) (fun z17 w17 h17 => ?_)
              obtain ⟨rfl, rfl⟩ := h17
              show SW K G 8 0 0 99 [(5, .long (lI f)), (4, .int (iI (bA B n i))), (1, .long (lI g)), (3, .int (iI q)), (0, .ref o)] [.int (iI (-1 - 2))] [aB G yt 400 tt, aB G a 3000 B, oMo o th n a e dn (i + 1) dp po kd wh re pl base sg xt row ror xi xd i nw nr nb m yt nrw nir yi yd inf9]
              refine s_perm (ws' := [oMo o th n a e dn (i + 1) dp po kd wh re pl base sg xt row ror xi xd i nw nr nb m yt nrw nir yi yd inf9, aB G a 3000 B, aB G yt 400 tt]) [2, 1, 0] (by decide) rfl rfl ?_
              refine s_iret X Y dX6_eightyFives_99 (rfl) ?_
              refine ⟨(i + 1), i, nw, m, tt, rfl, ?_, ?_, ?_, ?_⟩
              · (first | (exfalso; omega) | (exact (show (-1 - 2 : Int) = -3 from rfl).trans (stA_2 hr)))
              · (first | (exfalso; omega) | (intro _; rw [hr]; exact ⟨rfl, rfl⟩))
              · (first | (exfalso; omega) | (intro h; exact absurd h (by decide)))
              · (first | (exfalso; omega) | (exact (h3).2.2))
            · refine s_iload_n X dX6_eightyFives_81 rfl 3 rfl ?_
              refine s_if_le X 100 dX6_eightyFives_82 (by decide) (by omega) (fun c82 => ?_) (fun c82 => ?_)
              · refine s_aload_n X dX6_eightyFives_100 rfl 4 rfl ?_
                refine s_dup X dX6_eightyFives_101 rfl ?_
                refine s_get X dX6_eightyFives_102 fl_X6_102 1 rfl rfl ?_
                refine s_iconst X dX6_eightyFives_105 ?_
                refine s_iadd X dX6_eightyFives_106 ?_
                refine s_put X dX6_eightyFives_107 fl_X6_102 tyX6_ok nmX6 1 rfl rfl (rfl) (rfl) (Nat.le_of_ble_eq_true rfl) [aB G yt 400 tt, oMo o th n a e dn (i + 1) dp po kd wh re pl base sg xt row ror xi xd np nw nr nb m yt nrw nir yi yd inf9, aB G a 3000 B] rfl ?_
                refine s_aload_n X dX6_eightyFives_110 rfl 4 rfl ?_
                refine s_get X dX6_eightyFives_111 fl_X6_102 1 rfl rfl ?_
                refine s_aload_n X dX6_eightyFives_114 rfl 4 rfl ?_
                refine s_get X dX6_eightyFives_115 fl_X6_40 1 rfl rfl ?_
                refine s_icmp_ne X 126 dX6_eightyFives_118 (by decide) (by omega) (fun c118 => ?_) (fun c118 => ?_)
                · refine s_aload_n X dX6_eightyFives_126 rfl 4 rfl ?_
                  refine s_aload_n X dX6_eightyFives_127 rfl 4 rfl ?_
                  refine s_get X dX6_eightyFives_128 fl_X6_102 1 rfl rfl ?_
                  refine s_callIV X lk_X6_63 [1, 2] [0] (wr := [aB G yt 400 tt]) rfl rfl (by decide) (by decide) (by decide) (c_X6_byteAt (kl K) G o a po xt xi xd yt yi yd th n e dn (i + 1) dp kd wh pl base sg row ror np nw nb m nrw nir inf9 re nr B (i + 1) (by assumption) (by assumption) (by omega)) rfl rfl dX6_eightyFives_131 rfl rfl (Nat.le_of_ble_eq_true rfl) (by decide) (fun z18 w18 h18 => ?_)
                  obtain ⟨rfl, rfl⟩ := h18
                  show SW K G 8 0 0 134 [(5, .long (lI f)), (4, .int (iI (bA B n i))), (1, .long (lI g)), (3, .int (iI q)), (0, .ref o)] [.int (iI (bA B n (i + 1)))] [aB G yt 400 tt, oMo o th n a e dn (i + 1) dp po kd wh re pl base sg xt row ror xi xd np nw nr nb m yt nrw nir yi yd inf9, aB G a 3000 B]
                  have q19 := bA_C n (i + 1) (by assumption : ∀ j, B j < 256)
                  refine s_bipush 62 X dX6_eightyFives_134 (by decide) ?_
                  refine s_icmp_eq X 145 dX6_eightyFives_136 (by decide) (by omega) (fun c136 => ?_) (fun c136 => ?_)
                  · refine s_aload_n X dX6_eightyFives_145 rfl 4 rfl ?_
                    refine s_dup X dX6_eightyFives_146 rfl ?_
                    refine s_get X dX6_eightyFives_147 fl_X6_102 1 rfl rfl ?_
                    refine s_iconst X dX6_eightyFives_150 ?_
                    refine s_iadd X dX6_eightyFives_151 ?_
                    refine s_put X dX6_eightyFives_152 fl_X6_102 tyX6_ok nmX6 1 rfl rfl (rfl) (rfl) (Nat.le_of_ble_eq_true rfl) [aB G yt 400 tt, oMo o th n a e dn ((i + 1) + 1) dp po kd wh re pl base sg xt row ror xi xd np nw nr nb m yt nrw nir yi yd inf9, aB G a 3000 B] rfl ?_
                    refine s_iload_n X dX6_eightyFives_155 rfl 3 rfl ?_
                    have hr8 : e5S B n (at9 + 2) 0 0 [] = (1, i + 2, ol ++ hiL (fl5 g q) (q - 1).toNat) := by
                      rw [← h2, e5S_s (i := i) (by omega), if_neg (by omega), if_pos (by assumption)]
                      unfold e5E
                      rw [if_neg, if_neg (by omega), if_pos (by assumption)]
                      rcases hff with hff | hff
                      · rw [← hff]; omega
                      · omega
                    refine s_if_le X 168 dX6_eightyFives_156 (by decide) (by omega) (fun c156 => ?_) (fun c156 => ?_)
                    · have hr : e5S B n (at9 + 2) 0 0 [] = (1, i + 2, ol) := by rw [hr8, show (q - 1).toNat = 0 by omega]; show (1, i + 2, ol ++ []) = _; rw [List.append_nil]
                      have hT := h3
                      refine s_aload_n X dX6_eightyFives_168 rfl 4 rfl ?_
                      refine s_callIV X lk_X6_129 [1] [0, 2] (wr := [aB G yt 400 tt, aB G a 3000 B]) rfl rfl (by decide) (by decide) (by decide) (c_X6_finished (kl K) G o a po xt xi xd yt yi yd th n e dn ((i + 1) + 1) dp kd wh pl base sg row ror np nw nb m nrw nir inf9 re nr (by omega)) rfl rfl dX6_eightyFives_169 rfl rfl (Nat.le_of_ble_eq_true rfl) (by decide) (fun z20 w20 h20 => ?_)
                      obtain ⟨rfl, rfl⟩ := h20
                      show SW K G 8 0 0 172 [(5, .long (lI f)), (4, .int (iI (bA B n i))), (1, .long (lI g)), (3, .int (iI q)), (0, .ref o)] [.int (iI (if 400 < m then -2 else 6))] [aB G yt 400 tt, aB G a 3000 B, oMo o th n a e dn ((i + 1) + 1) dp po kd wh re pl base sg xt row ror xi xd np m nr nb m yt nrw nir yi yd inf9]
                      refine s_perm (ws' := [oMo o th n a e dn ((i + 1) + 1) dp po kd wh re pl base sg xt row ror xi xd np m nr nb m yt nrw nir yi yd inf9, aB G a 3000 B, aB G yt 400 tt]) [2, 1, 0] (by decide) rfl rfl ?_
                      refine s_iret X Y dX6_eightyFives_172 (rfl) ?_
                      refine ⟨((i + 1) + 1), np, m, m, tt, rfl, ?_, ?_, ?_, ?_⟩
                      · (first | (exfalso; omega) | (exact stY_1 hr hT))
                      · (first | (exfalso; omega) | (intro _; rw [hr]; exact ⟨by first | rfl | (rw [stF_1]; omega), rfl⟩))
                      · (first | (exfalso; omega) | (intro _; exact stY_6 hr hT))
                      · (first | (exfalso; omega) | (exact (hT).2.2))
                    · refine s_aload_n X dX6_eightyFives_159 rfl 4 rfl ?_
                      refine s_lload X dX6_eightyFives_160 0 rfl ?_
                      refine s_iload_n X dX6_eightyFives_162 rfl 3 rfl ?_
                      refine s_iconst X dX6_eightyFives_163 ?_
                      refine s_isub X dX6_eightyFives_164 ?_
                      refine s_callVV X lk_X6_147 [1, 0] [2] (wr := [aB G a 3000 B]) rfl rfl (by decide) (by decide) (by decide) (c_X6_some (kl K) G o a po xt xi xd yt yi yd th n e dn ((i + 1) + 1) dp kd wh pl base sg row ror np nw nb m nrw nir inf9 re nr B tt ol f (q - 1) (by assumption) (by omega) (by omega) (by omega)) rfl rfl dX6_eightyFives_165 rfl rfl (Nat.le_of_ble_eq_true rfl) (by decide) (fun w21 h21 => ?_)
                      obtain ⟨ns221, t221, rfl, f21_0, f21_1⟩ := h21
                      show SW K G 8 0 0 168 [(5, .long (lI f)), (4, .int (iI (bA B n i))), (1, .long (lI g)), (3, .int (iI q)), (0, .ref o)] [] [aB G a 3000 B, oMo o th n a e dn ((i + 1) + 1) dp po kd wh re pl base sg xt row ror xi xd np nw nr nb ns221 yt nrw nir yi yd inf9, aB G yt 400 t221]
                      have hT := f21_0
                      rw [hff.resolve_right (by omega)] at hT
                      have gN := f21_1
                      have hr := hr8
                      refine s_aload_n X dX6_eightyFives_168 rfl 4 rfl ?_
                      refine s_callIV X lk_X6_129 [1] [0, 2] (wr := [aB G a 3000 B, aB G yt 400 t221]) rfl rfl (by decide) (by decide) (by decide) (c_X6_finished (kl K) G o a po xt xi xd yt yi yd th n e dn ((i + 1) + 1) dp kd wh pl base sg row ror np nw nb ns221 nrw nir inf9 re nr (by omega)) rfl rfl dX6_eightyFives_169 rfl rfl (Nat.le_of_ble_eq_true rfl) (by decide) (fun z22 w22 h22 => ?_)
                      obtain ⟨rfl, rfl⟩ := h22
                      show SW K G 8 0 0 172 [(5, .long (lI f)), (4, .int (iI (bA B n i))), (1, .long (lI g)), (3, .int (iI q)), (0, .ref o)] [.int (iI (if 400 < ns221 then -2 else 6))] [aB G a 3000 B, aB G yt 400 t221, oMo o th n a e dn ((i + 1) + 1) dp po kd wh re pl base sg xt row ror xi xd np ns221 nr nb ns221 yt nrw nir yi yd inf9]
                      refine s_perm (ws' := [oMo o th n a e dn ((i + 1) + 1) dp po kd wh re pl base sg xt row ror xi xd np ns221 nr nb ns221 yt nrw nir yi yd inf9, aB G a 3000 B, aB G yt 400 t221]) [2, 0, 1] (by decide) rfl rfl ?_
                      refine s_iret X Y dX6_eightyFives_172 (rfl) ?_
                      refine ⟨((i + 1) + 1), np, ns221, ns221, t221, rfl, ?_, ?_, ?_, ?_⟩
                      · (first | (exfalso; omega) | (exact stY_1 hr hT))
                      · (first | (exfalso; omega) | (intro _; rw [hr]; exact ⟨by first | rfl | (rw [stF_1]; omega), rfl⟩))
                      · (first | (exfalso; omega) | (intro _; exact stY_6 hr hT))
                      · (first | (exfalso; omega) | (exact (hT).2.2))
                  · have hr : e5S B n (at9 + 2) 0 0 [] = (2, i + 1, []) := by
                      rw [← h2, e5S_s (i := i) (by omega), if_neg (by omega), if_pos (by assumption)]
                      unfold e5E
                      rw [if_neg, if_neg (by omega), if_neg (by assumption)]
                      rcases hff with hff | hff
                      · rw [← hff]; omega
                      · omega
                    refine s_aload_n X dX6_eightyFives_139 rfl 4 rfl ?_
                    refine s_iconst X dX6_eightyFives_140 ?_
                    refine s_callIV X lk_X6_138 [1] [0, 2] (wr := [aB G yt 400 tt, aB G a 3000 B]) rfl rfl (by decide) (by decide) (by decide) (c_X6_wrongByte (kl K) G o a po xt xi xd yt yi yd th n e dn (i + 1) dp kd wh pl base sg row ror np nw nb m nrw nir inf9 re nr 2) rfl rfl dX6_eightyFives_141 rfl rfl (Nat.le_of_ble_eq_true rfl) (by decide) (fun z23 w23 h23 => ?_)
                    obtain ⟨rfl, rfl⟩ := h23
                    show SW K G 8 0 0 144 [(5, .long (lI f)), (4, .int (iI (bA B n i))), (1, .long (lI g)), (3, .int (iI q)), (0, .ref o)] [.int (iI (-1 - 2))] [aB G yt 400 tt, aB G a 3000 B, oMo o th n a e dn ((i + 1) + 1) dp po kd wh re pl base sg xt row ror xi xd (i + 1) nw nr nb m yt nrw nir yi yd inf9]
                    refine s_perm (ws' := [oMo o th n a e dn ((i + 1) + 1) dp po kd wh re pl base sg xt row ror xi xd (i + 1) nw nr nb m yt nrw nir yi yd inf9, aB G a 3000 B, aB G yt 400 tt]) [2, 1, 0] (by decide) rfl rfl ?_
                    refine s_iret X Y dX6_eightyFives_144 (rfl) ?_
                    refine ⟨((i + 1) + 1), (i + 1), nw, m, tt, rfl, ?_, ?_, ?_, ?_⟩
                    · (first | (exfalso; omega) | (exact (show (-1 - 2 : Int) = -3 from rfl).trans (stA_2 hr)))
                    · (first | (exfalso; omega) | (intro _; rw [hr]; exact ⟨rfl, rfl⟩))
                    · (first | (exfalso; omega) | (intro h; exact absurd h (by decide)))
                    · (first | (exfalso; omega) | (exact (h3).2.2))
                · have hr : e5S B n (at9 + 2) 0 0 [] = (0, 0, []) := by
                    have hb9 := bA_out (B := B) (n := n) (i := i + 1) (by omega)
                    rw [← h2, e5S_s (i := i) (by omega), if_neg (by omega), if_pos (by assumption)]
                    unfold e5E
                    rw [if_neg, if_pos hb9]
                    rcases hff with hff | hff
                    · rw [← hff]; omega
                    · omega
                  refine s_aload_n X dX6_eightyFives_121 rfl 4 rfl ?_
                  refine s_callIV X lk_X6_132 [1] [0, 2] (wr := [aB G yt 400 tt, aB G a 3000 B]) rfl rfl (by decide) (by decide) (by decide) (c_X6_lacking (kl K) G o a po xt xi xd yt yi yd th n e dn (i + 1) dp kd wh pl base sg row ror np nw nb m nrw nir inf9 re nr (by omega)) rfl rfl dX6_eightyFives_122 rfl rfl (Nat.le_of_ble_eq_true rfl) (by decide) (fun z24 w24 h24 => ?_)
                  obtain ⟨rfl, rfl⟩ := h24
                  show SW K G 8 0 0 125 [(5, .long (lI f)), (4, .int (iI (bA B n i))), (1, .long (lI g)), (3, .int (iI q)), (0, .ref o)] [.int (iI (if e = 0 then 0 else -7))] [aB G yt 400 tt, aB G a 3000 B, oMo o th n a e dn (if e = 0 then (i + 1) else n) dp po kd wh re pl base sg xt row ror xi xd np nw nr nb m yt nrw nir yi yd inf9]
                  refine s_perm (ws' := [oMo o th n a e dn (if e = 0 then (i + 1) else n) dp po kd wh re pl base sg xt row ror xi xd np nw nr nb m yt nrw nir yi yd inf9, aB G a 3000 B, aB G yt 400 tt]) [2, 1, 0] (by decide) rfl rfl ?_
                  refine s_iret X Y dX6_eightyFives_125 (rfl) ?_
                  refine ⟨(if e = 0 then (i + 1) else n), np, nw, m, tt, rfl, ?_, ?_, ?_, ?_⟩
                  · (first | (exfalso; omega) | (exact stA_0 hr))
                  · (first | (exfalso; omega) | (intro h; rw [hr]; have h9 : ¬ e = 0 := (fun q => h (by rw [if_pos q])); exact ⟨by rw [if_neg h9]; rfl, rfl⟩))
                  · (first | (exfalso; omega) | (intro h; exact absurd h (by split <;> decide)))
                  · (first | (exfalso; omega) | (exact (h3).2.2))
              · refine s_lload X dX6_eightyFives_85 0 rfl ?_
                refine s_ldc2 4294967296 X dX6_eightyFives_87 tg865 (by decide) ?_
                refine s_lif_lt X 100 dX6_eightyFives_90 dX6_eightyFives_91 (by decide) (by omega) (fun c90 => ?_) (fun c90 => ?_)
                · refine s_aload_n X dX6_eightyFives_100 rfl 4 rfl ?_
                  refine s_dup X dX6_eightyFives_101 rfl ?_
                  refine s_get X dX6_eightyFives_102 fl_X6_102 1 rfl rfl ?_
                  refine s_iconst X dX6_eightyFives_105 ?_
                  refine s_iadd X dX6_eightyFives_106 ?_
                  refine s_put X dX6_eightyFives_107 fl_X6_102 tyX6_ok nmX6 1 rfl rfl (rfl) (rfl) (Nat.le_of_ble_eq_true rfl) [aB G yt 400 tt, oMo o th n a e dn (i + 1) dp po kd wh re pl base sg xt row ror xi xd np nw nr nb m yt nrw nir yi yd inf9, aB G a 3000 B] rfl ?_
                  refine s_aload_n X dX6_eightyFives_110 rfl 4 rfl ?_
                  refine s_get X dX6_eightyFives_111 fl_X6_102 1 rfl rfl ?_
                  refine s_aload_n X dX6_eightyFives_114 rfl 4 rfl ?_
                  refine s_get X dX6_eightyFives_115 fl_X6_40 1 rfl rfl ?_
                  refine s_icmp_ne X 126 dX6_eightyFives_118 (by decide) (by omega) (fun c118 => ?_) (fun c118 => ?_)
                  · refine s_aload_n X dX6_eightyFives_126 rfl 4 rfl ?_
                    refine s_aload_n X dX6_eightyFives_127 rfl 4 rfl ?_
                    refine s_get X dX6_eightyFives_128 fl_X6_102 1 rfl rfl ?_
                    refine s_callIV X lk_X6_63 [1, 2] [0] (wr := [aB G yt 400 tt]) rfl rfl (by decide) (by decide) (by decide) (c_X6_byteAt (kl K) G o a po xt xi xd yt yi yd th n e dn (i + 1) dp kd wh pl base sg row ror np nw nb m nrw nir inf9 re nr B (i + 1) (by assumption) (by assumption) (by omega)) rfl rfl dX6_eightyFives_131 rfl rfl (Nat.le_of_ble_eq_true rfl) (by decide) (fun z25 w25 h25 => ?_)
                    obtain ⟨rfl, rfl⟩ := h25
                    show SW K G 8 0 0 134 [(5, .long (lI f)), (4, .int (iI (bA B n i))), (1, .long (lI g)), (3, .int (iI q)), (0, .ref o)] [.int (iI (bA B n (i + 1)))] [aB G yt 400 tt, oMo o th n a e dn (i + 1) dp po kd wh re pl base sg xt row ror xi xd np nw nr nb m yt nrw nir yi yd inf9, aB G a 3000 B]
                    have q26 := bA_C n (i + 1) (by assumption : ∀ j, B j < 256)
                    refine s_bipush 62 X dX6_eightyFives_134 (by decide) ?_
                    refine s_icmp_eq X 145 dX6_eightyFives_136 (by decide) (by omega) (fun c136 => ?_) (fun c136 => ?_)
                    · refine s_aload_n X dX6_eightyFives_145 rfl 4 rfl ?_
                      refine s_dup X dX6_eightyFives_146 rfl ?_
                      refine s_get X dX6_eightyFives_147 fl_X6_102 1 rfl rfl ?_
                      refine s_iconst X dX6_eightyFives_150 ?_
                      refine s_iadd X dX6_eightyFives_151 ?_
                      refine s_put X dX6_eightyFives_152 fl_X6_102 tyX6_ok nmX6 1 rfl rfl (rfl) (rfl) (Nat.le_of_ble_eq_true rfl) [aB G yt 400 tt, oMo o th n a e dn ((i + 1) + 1) dp po kd wh re pl base sg xt row ror xi xd np nw nr nb m yt nrw nir yi yd inf9, aB G a 3000 B] rfl ?_
                      refine s_iload_n X dX6_eightyFives_155 rfl 3 rfl ?_
                      have hr8 : e5S B n (at9 + 2) 0 0 [] = (1, i + 2, ol ++ hiL (fl5 g q) (q - 1).toNat) := by
                        rw [← h2, e5S_s (i := i) (by omega), if_neg (by omega), if_pos (by assumption)]
                        unfold e5E
                        rw [if_neg, if_neg (by omega), if_pos (by assumption)]
                        rcases hff with hff | hff
                        · rw [← hff]; omega
                        · omega
                      refine s_if_le X 168 dX6_eightyFives_156 (by decide) (by omega) (fun c156 => ?_) (fun c156 => ?_)
                      · have hr : e5S B n (at9 + 2) 0 0 [] = (1, i + 2, ol) := by rw [hr8, show (q - 1).toNat = 0 by omega]; show (1, i + 2, ol ++ []) = _; rw [List.append_nil]
                        have hT := h3
                        refine s_aload_n X dX6_eightyFives_168 rfl 4 rfl ?_
                        refine s_callIV X lk_X6_129 [1] [0, 2] (wr := [aB G yt 400 tt, aB G a 3000 B]) rfl rfl (by decide) (by decide) (by decide) (c_X6_finished (kl K) G o a po xt xi xd yt yi yd th n e dn ((i + 1) + 1) dp kd wh pl base sg row ror np nw nb m nrw nir inf9 re nr (by omega)) rfl rfl dX6_eightyFives_169 rfl rfl (Nat.le_of_ble_eq_true rfl) (by decide) (fun z27 w27 h27 => ?_)
                        obtain ⟨rfl, rfl⟩ := h27
                        show SW K G 8 0 0 172 [(5, .long (lI f)), (4, .int (iI (bA B n i))), (1, .long (lI g)), (3, .int (iI q)), (0, .ref o)] [.int (iI (if 400 < m then -2 else 6))] [aB G yt 400 tt, aB G a 3000 B, oMo o th n a e dn ((i + 1) + 1) dp po kd wh re pl base sg xt row ror xi xd np m nr nb m yt nrw nir yi yd inf9]
                        refine s_perm (ws' := [oMo o th n a e dn ((i + 1) + 1) dp po kd wh re pl base sg xt row ror xi xd np m nr nb m yt nrw nir yi yd inf9, aB G a 3000 B, aB G yt 400 tt]) [2, 1, 0] (by decide) rfl rfl ?_
                        refine s_iret X Y dX6_eightyFives_172 (rfl) ?_
                        refine ⟨((i + 1) + 1), np, m, m, tt, rfl, ?_, ?_, ?_, ?_⟩
                        · (first | (exfalso; omega) | (exact stY_1 hr hT))
                        · (first | (exfalso; omega) | (intro _; rw [hr]; exact ⟨by first | rfl | (rw [stF_1]; omega), rfl⟩))
                        · (first | (exfalso; omega) | (intro _; exact stY_6 hr hT))
                        · (first | (exfalso; omega) | (exact (hT).2.2))
                      · refine s_aload_n X dX6_eightyFives_159 rfl 4 rfl ?_
                        refine s_lload X dX6_eightyFives_160 0 rfl ?_
                        refine s_iload_n X dX6_eightyFives_162 rfl 3 rfl ?_
                        refine s_iconst X dX6_eightyFives_163 ?_
                        refine s_isub X dX6_eightyFives_164 ?_
                        refine s_callVV X lk_X6_147 [1, 0] [2] (wr := [aB G a 3000 B]) rfl rfl (by decide) (by decide) (by decide) (c_X6_some (kl K) G o a po xt xi xd yt yi yd th n e dn ((i + 1) + 1) dp kd wh pl base sg row ror np nw nb m nrw nir inf9 re nr B tt ol f (q - 1) (by assumption) (by omega) (by omega) (by omega)) rfl rfl dX6_eightyFives_165 rfl rfl (Nat.le_of_ble_eq_true rfl) (by decide) (fun w28 h28 => ?_)
                        obtain ⟨ns228, t228, rfl, f28_0, f28_1⟩ := h28
                        show SW K G 8 0 0 168 [(5, .long (lI f)), (4, .int (iI (bA B n i))), (1, .long (lI g)), (3, .int (iI q)), (0, .ref o)] [] [aB G a 3000 B, oMo o th n a e dn ((i + 1) + 1) dp po kd wh re pl base sg xt row ror xi xd np nw nr nb ns228 yt nrw nir yi yd inf9, aB G yt 400 t228]
                        have hT := f28_0
                        rw [hff.resolve_right (by omega)] at hT
                        have gN := f28_1
                        have hr := hr8
                        refine s_aload_n X dX6_eightyFives_168 rfl 4 rfl ?_
                        refine s_callIV X lk_X6_129 [1] [0, 2] (wr := [aB G a 3000 B, aB G yt 400 t228]) rfl rfl (by decide) (by decide) (by decide) (c_X6_finished (kl K) G o a po xt xi xd yt yi yd th n e dn ((i + 1) + 1) dp kd wh pl base sg row ror np nw nb ns228 nrw nir inf9 re nr (by omega)) rfl rfl dX6_eightyFives_169 rfl rfl (Nat.le_of_ble_eq_true rfl) (by decide) (fun z29 w29 h29 => ?_)
                        obtain ⟨rfl, rfl⟩ := h29
                        show SW K G 8 0 0 172 [(5, .long (lI f)), (4, .int (iI (bA B n i))), (1, .long (lI g)), (3, .int (iI q)), (0, .ref o)] [.int (iI (if 400 < ns228 then -2 else 6))] [aB G a 3000 B, aB G yt 400 t228, oMo o th n a e dn ((i + 1) + 1) dp po kd wh re pl base sg xt row ror xi xd np ns228 nr nb ns228 yt nrw nir yi yd inf9]
                        refine s_perm (ws' := [oMo o th n a e dn ((i + 1) + 1) dp po kd wh re pl base sg xt row ror xi xd np ns228 nr nb ns228 yt nrw nir yi yd inf9, aB G a 3000 B, aB G yt 400 t228]) [2, 0, 1] (by decide) rfl rfl ?_
                        refine s_iret X Y dX6_eightyFives_172 (rfl) ?_
                        refine ⟨((i + 1) + 1), np, ns228, ns228, t228, rfl, ?_, ?_, ?_, ?_⟩
                        · (first | (exfalso; omega) | (exact stY_1 hr hT))
                        · (first | (exfalso; omega) | (intro _; rw [hr]; exact ⟨by first | rfl | (rw [stF_1]; omega), rfl⟩))
                        · (first | (exfalso; omega) | (intro _; exact stY_6 hr hT))
                        · (first | (exfalso; omega) | (exact (hT).2.2))
                    · have hr : e5S B n (at9 + 2) 0 0 [] = (2, i + 1, []) := by
                        rw [← h2, e5S_s (i := i) (by omega), if_neg (by omega), if_pos (by assumption)]
                        unfold e5E
                        rw [if_neg, if_neg (by omega), if_neg (by assumption)]
                        rcases hff with hff | hff
                        · rw [← hff]; omega
                        · omega
                      refine s_aload_n X dX6_eightyFives_139 rfl 4 rfl ?_
                      refine s_iconst X dX6_eightyFives_140 ?_
                      refine s_callIV X lk_X6_138 [1] [0, 2] (wr := [aB G yt 400 tt, aB G a 3000 B]) rfl rfl (by decide) (by decide) (by decide) (c_X6_wrongByte (kl K) G o a po xt xi xd yt yi yd th n e dn (i + 1) dp kd wh pl base sg row ror np nw nb m nrw nir inf9 re nr 2) rfl rfl dX6_eightyFives_141 rfl rfl (Nat.le_of_ble_eq_true rfl) (by decide) (fun z30 w30 h30 => ?_)
                      obtain ⟨rfl, rfl⟩ := h30
                      show SW K G 8 0 0 144 [(5, .long (lI f)), (4, .int (iI (bA B n i))), (1, .long (lI g)), (3, .int (iI q)), (0, .ref o)] [.int (iI (-1 - 2))] [aB G yt 400 tt, aB G a 3000 B, oMo o th n a e dn ((i + 1) + 1) dp po kd wh re pl base sg xt row ror xi xd (i + 1) nw nr nb m yt nrw nir yi yd inf9]
                      refine s_perm (ws' := [oMo o th n a e dn ((i + 1) + 1) dp po kd wh re pl base sg xt row ror xi xd (i + 1) nw nr nb m yt nrw nir yi yd inf9, aB G a 3000 B, aB G yt 400 tt]) [2, 1, 0] (by decide) rfl rfl ?_
                      refine s_iret X Y dX6_eightyFives_144 (rfl) ?_
                      refine ⟨((i + 1) + 1), (i + 1), nw, m, tt, rfl, ?_, ?_, ?_, ?_⟩
                      · (first | (exfalso; omega) | (exact (show (-1 - 2 : Int) = -3 from rfl).trans (stA_2 hr)))
                      · (first | (exfalso; omega) | (intro _; rw [hr]; exact ⟨rfl, rfl⟩))
                      · (first | (exfalso; omega) | (intro h; exact absurd h (by decide)))
                      · (first | (exfalso; omega) | (exact (h3).2.2))
                  · have hr : e5S B n (at9 + 2) 0 0 [] = (0, 0, []) := by
                      have hb9 := bA_out (B := B) (n := n) (i := i + 1) (by omega)
                      rw [← h2, e5S_s (i := i) (by omega), if_neg (by omega), if_pos (by assumption)]
                      unfold e5E
                      rw [if_neg, if_pos hb9]
                      rcases hff with hff | hff
                      · rw [← hff]; omega
                      · omega
                    refine s_aload_n X dX6_eightyFives_121 rfl 4 rfl ?_
                    refine s_callIV X lk_X6_132 [1] [0, 2] (wr := [aB G yt 400 tt, aB G a 3000 B]) rfl rfl (by decide) (by decide) (by decide) (c_X6_lacking (kl K) G o a po xt xi xd yt yi yd th n e dn (i + 1) dp kd wh pl base sg row ror np nw nb m nrw nir inf9 re nr (by omega)) rfl rfl dX6_eightyFives_122 rfl rfl (Nat.le_of_ble_eq_true rfl) (by decide) (fun z31 w31 h31 => ?_)
                    obtain ⟨rfl, rfl⟩ := h31
                    show SW K G 8 0 0 125 [(5, .long (lI f)), (4, .int (iI (bA B n i))), (1, .long (lI g)), (3, .int (iI q)), (0, .ref o)] [.int (iI (if e = 0 then 0 else -7))] [aB G yt 400 tt, aB G a 3000 B, oMo o th n a e dn (if e = 0 then (i + 1) else n) dp po kd wh re pl base sg xt row ror xi xd np nw nr nb m yt nrw nir yi yd inf9]
                    refine s_perm (ws' := [oMo o th n a e dn (if e = 0 then (i + 1) else n) dp po kd wh re pl base sg xt row ror xi xd np nw nr nb m yt nrw nir yi yd inf9, aB G a 3000 B, aB G yt 400 tt]) [2, 1, 0] (by decide) rfl rfl ?_
                    refine s_iret X Y dX6_eightyFives_125 (rfl) ?_
                    refine ⟨(if e = 0 then (i + 1) else n), np, nw, m, tt, rfl, ?_, ?_, ?_, ?_⟩
                    · (first | (exfalso; omega) | (exact stA_0 hr))
                    · (first | (exfalso; omega) | (intro h; rw [hr]; have h9 : ¬ e = 0 := (fun q => h (by rw [if_pos q])); exact ⟨by rw [if_neg h9]; rfl, rfl⟩))
                    · (first | (exfalso; omega) | (intro h; exact absurd h (by split <;> decide)))
                    · (first | (exfalso; omega) | (exact (h3).2.2))
                · have hr : e5S B n (at9 + 2) 0 0 [] = (2, i, []) := by
                    rw [← h2, e5S_s (i := i) (by omega), if_neg (by omega), if_pos (by assumption)]
                    unfold e5E
                    rw [if_pos]
                    rcases hff with hff | hff
                    · rw [← hff]; omega
                    · omega
                  refine s_aload_n X dX6_eightyFives_94 rfl 4 rfl ?_
                  refine s_iconst X dX6_eightyFives_95 ?_
                  refine s_callIV X lk_X6_138 [1] [0, 2] (wr := [aB G yt 400 tt, aB G a 3000 B]) rfl rfl (by decide) (by decide) (by decide) (c_X6_wrongByte (kl K) G o a po xt xi xd yt yi yd th n e dn i dp kd wh pl base sg row ror np nw nb m nrw nir inf9 re nr 2) rfl rfl dX6_eightyFives_96 rfl rfl (Nat.le_of_ble_eq_true rfl) (by decide) (fun z32 w32 h32 => ?_)
                  obtain ⟨rfl, rfl⟩ := h32
                  show SW K G 8 0 0 99 [(5, .long (lI f)), (4, .int (iI (bA B n i))), (1, .long (lI g)), (3, .int (iI q)), (0, .ref o)] [.int (iI (-1 - 2))] [aB G yt 400 tt, aB G a 3000 B, oMo o th n a e dn (i + 1) dp po kd wh re pl base sg xt row ror xi xd i nw nr nb m yt nrw nir yi yd inf9]
                  refine s_perm (ws' := [oMo o th n a e dn (i + 1) dp po kd wh re pl base sg xt row ror xi xd i nw nr nb m yt nrw nir yi yd inf9, aB G a 3000 B, aB G yt 400 tt]) [2, 1, 0] (by decide) rfl rfl ?_
                  refine s_iret X Y dX6_eightyFives_99 (rfl) ?_
                  refine ⟨(i + 1), i, nw, m, tt, rfl, ?_, ?_, ?_, ?_⟩
                  · (first | (exfalso; omega) | (exact (show (-1 - 2 : Int) = -3 from rfl).trans (stA_2 hr)))
                  · (first | (exfalso; omega) | (intro _; rw [hr]; exact ⟨rfl, rfl⟩))
                  · (first | (exfalso; omega) | (intro h; exact absurd h (by decide)))
                  · (first | (exfalso; omega) | (exact (h3).2.2))
          refine s_lload_n X dX6_eightyFives_42 rfl 1 rfl ?_
          refine s_lstore X dX6_eightyFives_43 [(5, .long (lI g)), (4, .int (iI (bA B n i))), (1, .long (lI g)), (3, .int (iI q)), (0, .ref o)] (by decide) rfl ?_
          refine s_iload_n X dX6_eightyFives_45 rfl 3 rfl ?_
          refine s_istore X dX6_eightyFives_46 [(7, .int (iI q)), (5, .long (lI g)), (4, .int (iI (bA B n i))), (1, .long (lI g)), (3, .int (iI q)), (0, .ref o)] (by decide) rfl ?_
          have lp2 : ∀ (m9 : Nat) (f : Int) (u : Int) (g1 : q ≤ u ∧ u ≤ 5 ∧ (q = 0 → f = g)) (gf : (u = 0 ∧ f = g) ∨ (u = 1 ∧ 0 ≤ f ∧ f < 85) ∨ (u = 2 ∧ 0 ≤ f ∧ f < 7225) ∨ (u = 3 ∧ 0 ≤ f ∧ f < 614125) ∨ (u = 4 ∧ 0 ≤ f ∧ f < 52200625) ∨ (u = 5 ∧ 0 ≤ f ∧ f < 4437053125)) (g2 : flF (5 - u).toNat f = fl5 g q ∨ q = 0), (5 - u).toNat < m9 → SW K G 8 0 0 48 [(5, .long (lI f)), (7, .int (iI u)), (4, .int (iI (bA B n i))), (1, .long (lI g)), (3, .int (iI q)), (0, .ref o)] [] [aB G yt 400 tt, oMo o th n a e dn i dp po kd wh re pl base sg xt row ror xi xd np nw nr nb m yt nrw nir yi yd inf9, aB G a 3000 B] := by
            intro m9
            induction m9 with
            | zero => intro f u g1 gf g2 hm9; exact absurd hm9 (Nat.not_lt_zero _)
            | succ m9 ih9 =>
              intro f u g1 gf g2 hm9
              refine s_iload X dX6_eightyFives_48 1 rfl ?_
              refine s_iconst X dX6_eightyFives_50 ?_
              refine s_icmp_ge X 76 dX6_eightyFives_51 (by decide) (by omega) (fun c51 => ?_) (fun c51 => ?_)
              · refine s_locs (lv' := [(5, .long (lI f)), (4, .int (iI (bA B n i))), (1, .long (lI g)), (3, .int (iI q)), (0, .ref o)]) [0, 2, 3, 4, 5] rfl ?_
                exact j76 f (by
                  rcases g2 with g2 | g2
                  · by_cases h9 : q = 0
                    · exact Or.inr h9
                    · refine Or.inl ?_; rw [← g2, show (5 - u).toNat = 0 by omega]; rfl
                  · exact Or.inr g2) (by omega)
              · refine s_iload_n X dX6_eightyFives_54 rfl 4 rfl ?_
                refine s_if_le X 76 dX6_eightyFives_55 (by decide) (by omega) (fun c55 => ?_) (fun c55 => ?_)
                · refine s_locs (lv' := [(5, .long (lI f)), (4, .int (iI (bA B n i))), (1, .long (lI g)), (3, .int (iI q)), (0, .ref o)]) [0, 2, 3, 4, 5] rfl ?_
                  exact j76 f (by
                    rcases g2 with g2 | g2
                    · by_cases h9 : q = 0
                      · exact Or.inr h9
                      · refine Or.inl ?_; rw [← g2, show (5 - u).toNat = 0 by omega]; rfl
                    · exact Or.inr g2) (by omega)
                · refine s_ldc2 85 X dX6_eightyFives_58 tg915 (by decide) ?_
                  refine s_lload X dX6_eightyFives_61 0 rfl ?_
                  refine s_lmul X dX6_eightyFives_63 ?_
                  refine s_ldc2 84 X dX6_eightyFives_64 tg916 (by decide) ?_
                  refine s_ladd X dX6_eightyFives_67 ?_
                  refine s_lstore X dX6_eightyFives_68 [(5, .long (lI ((85 * f) + 84))), (7, .int (iI u)), (4, .int (iI (bA B n i))), (1, .long (lI g)), (3, .int (iI q)), (0, .ref o)] (by decide) rfl ?_
                  refine s_iinc (z := u + 1) X dX6_eightyFives_70 1 rfl (by first | rfl | omega) [(7, .int (iI (u + 1))), (5, .long (lI ((85 * f) + 84))), (4, .int (iI (bA B n i))), (1, .long (lI g)), (3, .int (iI q)), (0, .ref o)] (by decide) rfl ?_
                  refine s_goto X 48 dX6_eightyFives_73 (by decide) ?_
                  refine s_locs (lv' := [(5, .long (lI ((85 * f) + 84))), (7, .int (iI (u + 1))), (4, .int (iI (bA B n i))), (1, .long (lI g)), (3, .int (iI q)), (0, .ref o)]) [1, 0, 2, 3, 4, 5] rfl ?_
                  exact ih9 ((85 * f) + 84) (u + 1) (by omega) (by omega) (by refine Or.inl ?_; rw [← g2.resolve_right (by omega), show (5 - u).toNat = (5 - (u + 1)).toNat + 1 by omega, show 85 * f + 84 = f * 85 + 84 by omega]; rfl) (by omega)
          refine s_locs (lv' := [(5, .long (lI g)), (7, .int (iI q)), (4, .int (iI (bA B n i))), (1, .long (lI g)), (3, .int (iI q)), (0, .ref o)]) [1, 0, 2, 3, 4, 5] rfl ?_
          exact lp2 _ g q (by omega) (by omega) (Or.inl rfl) (Nat.lt_succ_self _)
  refine s_locs (lv' := [(1, .long (lI 0)), (3, .int (iI 0)), (0, .ref o)]) [1, 0, 2] rfl ?_
  exact lp _ (at9 + 2) 0 0 ns t ([]) (by omega) (by omega) (by subst hns0; exact TY_0 htb) (rfl) (Nat.lt_succ_self _)
