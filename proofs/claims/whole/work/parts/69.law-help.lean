set_option maxRecDepth 100000 in
set_option maxHeartbeats 4000000 in
theorem c_L_add (l : Launch) (hfl : l.stackTraces = false) (G : GX) (o : Nat) (b : Nat) (w : Nat) (s2 : Nat) (i2 : Nat) (p9 : Nat) (lt : Nat) (br : Int) (lp : Int) (k : Nat) (a : Nat) (n : Int) (rd : Int) (e : Int) (B : Nat → Nat) (u : Nat) (f : Nat → Int) (v : Int) (hn : 0 ≤ n ∧ n ≤ 3000) (he : e = 0 ∨ e = 1) : CtXI l G yL_add (.codeWith yL_add cL_add 4 (some .int) [(0, 9, 12, 13), (0, 9, 15, 15)]) ({ frames := 7, cells := 1, slots := 6, locals := 103 } : Room) [.ref o, .int (iI v), .ref u] [oTR o b w s2 i2 p9 br lt k lp, oBy b a n rd e, aB G a 3000 B, aJ G u 1 f] (fun (z9 : Int) (w9 : va_W) => ∃ (n2 : Int), ∃ (B2 : Nat → Nat), ∃ (f2 : Nat → Int), w9 = [oTR o b w s2 i2 p9 br lt k lp, oBy b a n2 rd e, aB G a 3000 B2, aJ G u 1 f2] ∧ ((e = 1 ∧ z9 = 1 ∧ n2 = n ∧ B2 = B) ∨ (e = 0 ∧ n = 3000 ∧ z9 = 2 ∧ n2 = n ∧ B2 = B) ∨ (e = 0 ∧ n < 3000 ∧ z9 = 0 ∧ n2 = n + 1 ∧ B2 = uB B n.toNat (by8 v) ∧ f2 0 = n + 1))) (fun (E9 : String) (w9 : va_W) => False) := by
  intro sz
  refine metH_of hfl (fun wc sz => va_Qi (qI _) (posW G wc sz) (va_A wc sz)) _ (by decide) tk_L_add [(0, .ref o), (1, .int (iI v)), (2, .ref u)] rfl (Nat.le_of_ble_eq_true rfl) (fun K hK9 htb X Y => ?_)
  subst hK9
  replace Y : RXI K G (some .int) 1 6 _ _ := Y
  have hZ := Y.2.2.2.1
  refine s_aload_n X dL_add_0 rfl 2 rfl ?_
  refine s_iconst X dL_add_1 ?_
  refine s_aload_n X dL_add_2 rfl 0 rfl ?_
  refine s_iload_n X dL_add_3 rfl 1 rfl ?_
  refine s_callXI X hZ lk_L_7 [0, 1, 2] [3] (wr := [aJ G u 1 f]) rfl rfl (by decide) (by decide) (by decide) (c_X5_add (kl K) hfl G o b w s2 i2 p9 lt br lp k a n rd e B v (by assumption) (by omega)) rfl rfl dL_add_4 rfl rfl (Nat.le_of_ble_eq_true rfl) ⟨⟨Nat.le_of_ble_eq_true rfl, Nat.le_of_ble_eq_true rfl⟩, Nat.le_of_ble_eq_true rfl, Nat.le_of_ble_eq_true rfl⟩ (fun z1 w1 h1 => ?_) (fun E1 w1 h1 => ?_)
  rotate_left
  · rcases h1 with ⟨rfl, rfl, x1_0⟩ | ⟨rfl, rfl, x1_0⟩
    · refine s_catch (name := tISE) (hpc := 12) X hZ [] ⟨0, 9, 12, 13⟩ [⟨0, 9, 15, 15⟩] (by rw [htb]; rfl) (fun z hz => absurd hz List.not_mem_nil) (by decide) (by decide) tk_L_13 (by decide) rfl (fun q1 => ?_)
      show SW K G 4 1 6 12 [(0, .ref o), (1, .int (iI v)), (2, .ref u)] [.ref q1] [aJ G u 1 f, oTR o b w s2 i2 p9 br lt k lp, oBy b a n rd e, aB G a 3000 B]
      refine s_astore_n X dL_add_12 rfl [(3, .ref q1), (0, .ref o), (1, .int (iI v)), (2, .ref u)] (by decide) rfl ?_
      refine s_iconst X dL_add_13 ?_
      refine s_perm (ws' := [oTR o b w s2 i2 p9 br lt k lp, oBy b a n rd e, aB G a 3000 B, aJ G u 1 f]) [1, 2, 3, 0] (by decide) rfl rfl ?_
      refine s_iretX X Y ⟨Nat.le_of_ble_eq_true rfl, Nat.le_of_ble_eq_true rfl⟩ dL_add_14 (rfl) ?_
      refine ⟨n, B, f, rfl, ?_⟩
      · (first | (exfalso; omega) | (first | exact Or.inr (Or.inr ⟨by omega, by omega, rfl, rfl, rfl, rfl⟩) | exact Or.inl ⟨by omega, rfl, rfl, rfl⟩ | exact Or.inr (Or.inl ⟨by omega, by omega, rfl, rfl, rfl⟩)))
    · refine s_catch (name := tUOE) (hpc := 15) X hZ [⟨0, 9, 12, 13⟩] ⟨0, 9, 15, 15⟩ [] (by rw [htb]; rfl) (fun z hz => by rw [List.mem_singleton.mp hz]; exact Or.inr ⟨by decide, tISE, tk_L_13, hZ.2.2.2.2.2.2.1⟩) (by decide) (by decide) tk_L_15 (by decide) rfl (fun q1 => ?_)
      show SW K G 4 1 6 15 [(0, .ref o), (1, .int (iI v)), (2, .ref u)] [.ref q1] [aJ G u 1 f, oTR o b w s2 i2 p9 br lt k lp, oBy b a n rd e, aB G a 3000 B]
      refine s_astore_n X dL_add_15 rfl [(3, .ref q1), (0, .ref o), (1, .int (iI v)), (2, .ref u)] (by decide) rfl ?_
      refine s_iconst X dL_add_16 ?_
      refine s_perm (ws' := [oTR o b w s2 i2 p9 br lt k lp, oBy b a n rd e, aB G a 3000 B, aJ G u 1 f]) [1, 2, 3, 0] (by decide) rfl rfl ?_
      refine s_iretX X Y ⟨Nat.le_of_ble_eq_true rfl, Nat.le_of_ble_eq_true rfl⟩ dL_add_17 (rfl) ?_
      refine ⟨n, B, f, rfl, ?_⟩
      · (first | (exfalso; omega) | (first | exact Or.inr (Or.inr ⟨by omega, by omega, rfl, rfl, rfl, rfl⟩) | exact Or.inl ⟨by omega, rfl, rfl, rfl⟩ | exact Or.inr (Or.inl ⟨by omega, by omega, rfl, rfl, rfl⟩)))
  obtain ⟨rfl, rfl, f1_0⟩ := h1
  show SW K G 4 1 6 7 [(0, .ref o), (1, .int (iI v)), (2, .ref u)] [.int (iI (n + 1)), .int (iI 0), .ref u] [aJ G u 1 f, oTR o b w s2 i2 p9 br lt k lp, oBy b a (n + 1) rd e, aB G a 3000 (uB B n.toNat (by8 v))]
  refine s_i2l X dL_add_7 (by omega) ?_
  refine s_last X dL_add_8 0 rfl (by omega) [aJ G u 1 (uI f ((0 : Int).toNat) (n + 1)), oTR o b w s2 i2 p9 br lt k lp, oBy b a (n + 1) rd e, aB G a 3000 (uB B n.toNat (by8 v))] rfl ?_
  refine s_goto X 18 dL_add_9 (by decide) ?_
  refine s_iconst X dL_add_18 ?_
  refine s_perm (ws' := [oTR o b w s2 i2 p9 br lt k lp, oBy b a (n + 1) rd e, aB G a 3000 (uB B n.toNat (by8 v)), aJ G u 1 (uI f ((0 : Int).toNat) (n + 1))]) [1, 2, 3, 0] (by decide) rfl rfl ?_
  refine s_iretX X Y ⟨Nat.le_of_ble_eq_true rfl, Nat.le_of_ble_eq_true rfl⟩ dL_add_19 (rfl) ?_
  refine ⟨(n + 1), (uB B n.toNat (by8 v)), (uI f ((0 : Int).toNat) (n + 1)), rfl, ?_⟩
  · (first | (exfalso; omega) | (first | exact Or.inr (Or.inr ⟨by omega, by omega, rfl, rfl, rfl, rfl⟩) | exact Or.inl ⟨by omega, rfl, rfl, rfl⟩ | exact Or.inr (Or.inl ⟨by omega, by omega, rfl, rfl, rfl⟩)))
set_option maxRecDepth 100000 in
set_option maxHeartbeats 4000000 in
theorem c_L_binary (l : Launch) (hfl : l.stackTraces = false) (G : GX) (o : Nat) (b : Nat) (w : Nat) (s2 : Nat) (i2 : Nat) (p9 : Nat) (lt : Nat) (br : Int) (lp : Int) (k : Nat) (lx : Nat) (li8 : Nat) (ld8 : Nat) (lpl : Int) (laf : Int) (lwh : Int) (llen : Int) (lror : Int) (lrl : Int) (lre : UInt64) (lrn : Nat → Int) (u : Nat) (f : Nat → Int) (i : Int) (wt : Int) (hlr : 0 ≤ lrl ∧ lrl ≤ 60) (hi : R32 i ∧ R32 wt) (hlo : lror = 0 ∨ lror = 1) : CtXI l G yL_binary (.codeWith yL_binary cL_binary 5 (some .int) [(0, 10, 13, 21)]) ({ frames := 7, cells := 1, slots := 6, locals := 104 } : Room) [.ref o, .int (iI i), .int (iI wt), .ref u] [oTR o b w s2 i2 p9 br lt k lp, oTk lt lpl laf lwh lre lx llen li8 ld8 lror lrl, aI G li8 60 lrn, aJ G u 1 f] (fun (z9 : Int) (w9 : va_W) => ∃ (f2 : Nat → Int), w9 = [oTR o b w s2 i2 p9 br lt k lp, oTk lt lpl laf lwh lre lx llen li8 ld8 lror lrl, aI G li8 60 lrn, aJ G u 1 f2] ∧ (((0 ≤ i ∧ i < lrl ∧ 0 ≤ wt ∧ wt ≤ 1) ∧ z9 = 0 ∧ f2 0 = (iI (if wt = 0 then (if lror = 0 then 0 else 1) else lrn i.toNat)).toInt) ∨ (¬ (0 ≤ i ∧ i < lrl ∧ 0 ≤ wt ∧ wt ≤ 1) ∧ z9 = 1))) (fun (E9 : String) (w9 : va_W) => False) := by
  intro sz
  refine metH_of hfl (fun wc sz => va_Qi (qI _) (posW G wc sz) (va_A wc sz)) _ (by decide) tk_L_binary [(0, .ref o), (1, .int (iI i)), (2, .int (iI wt)), (3, .ref u)] rfl (Nat.le_of_ble_eq_true rfl) (fun K hK9 htb X Y => ?_)
  subst hK9
  replace Y : RXI K G (some .int) 1 6 _ _ := Y
  have hZ := Y.2.2.2.1
  refine s_aload_n X dL_binary_0 rfl 3 rfl ?_
  refine s_iconst X dL_binary_1 ?_
  refine s_aload_n X dL_binary_2 rfl 0 rfl ?_
  refine s_iload_n X dL_binary_3 rfl 1 rfl ?_
  refine s_iload_n X dL_binary_4 rfl 2 rfl ?_
  refine s_callXI X hZ lk_L_17 [0, 1, 2] [3] (wr := [aJ G u 1 f]) rfl rfl (by decide) (by decide) (by decide) (c_X5_binary (kl K) hfl G o b w s2 i2 p9 lt br lp k lx li8 ld8 lpl laf lwh llen lror lrl lre lrn i wt (by omega) (by omega) (by omega)) rfl rfl dL_binary_5 rfl rfl (Nat.le_of_ble_eq_true rfl) ⟨⟨Nat.le_of_ble_eq_true rfl, Nat.le_of_ble_eq_true rfl⟩, Nat.le_of_ble_eq_true rfl, Nat.le_of_ble_eq_true rfl⟩ (fun z1 w1 h1 => ?_) (fun E1 w1 h1 => ?_)
  rotate_left
  · obtain ⟨rfl, rfl, x1_0⟩ := h1
    refine s_catch (name := tIOB) (hpc := 13) X hZ [] ⟨0, 10, 13, 21⟩ [] (by rw [htb]; rfl) (fun z hz => absurd hz List.not_mem_nil) (by decide) (by decide) tk_L_21 (by decide) rfl (fun q1 => ?_)
    show SW K G 5 1 6 13 [(0, .ref o), (1, .int (iI i)), (2, .int (iI wt)), (3, .ref u)] [.ref q1] [aJ G u 1 f, oTR o b w s2 i2 p9 br lt k lp, oTk lt lpl laf lwh lre lx llen li8 ld8 lror lrl, aI G li8 60 lrn]
    refine s_astore X dL_binary_13 [(4, .ref q1), (0, .ref o), (1, .int (iI i)), (2, .int (iI wt)), (3, .ref u)] (by decide) rfl ?_
    refine s_iconst X dL_binary_15 ?_
    refine s_perm (ws' := [oTR o b w s2 i2 p9 br lt k lp, oTk lt lpl laf lwh lre lx llen li8 ld8 lror lrl, aI G li8 60 lrn, aJ G u 1 f]) [1, 2, 3, 0] (by decide) rfl rfl ?_
    refine s_iretX X Y ⟨Nat.le_of_ble_eq_true rfl, Nat.le_of_ble_eq_true rfl⟩ dL_binary_16 (rfl) ?_
    refine ⟨f, rfl, ?_⟩
    · (first | (exfalso; omega) | (first | exact Or.inr ⟨by assumption, rfl⟩ | exact Or.inl ⟨fx_l.1, rfl, by rw [← fx_l.2]; rfl⟩))
  obtain ⟨rfl, f1_0⟩ := h1
  show SW K G 5 1 6 8 [(0, .ref o), (1, .int (iI i)), (2, .int (iI wt)), (3, .ref u)] [.int (iI z1), .int (iI 0), .ref u] [aJ G u 1 f, oTR o b w s2 i2 p9 br lt k lp, oTk lt lpl laf lwh lre lx llen li8 ld8 lror lrl, aI G li8 60 lrn]
  have fx_l := f1_0
  refine s_cast (st' := [.int (iI ((iI z1).toInt)), .int (iI 0), .ref u]) (by rw [iI_of]) rfl rfl ?_
  refine s_i2l X dL_binary_8 (by exact iI_R _) ?_
  refine s_last X dL_binary_9 0 rfl (by omega) [aJ G u 1 (uI f ((0 : Int).toNat) ((iI z1).toInt)), oTR o b w s2 i2 p9 br lt k lp, oTk lt lpl laf lwh lre lx llen li8 ld8 lror lrl, aI G li8 60 lrn] rfl ?_
  refine s_goto X 17 dL_binary_10 (by decide) ?_
  refine s_iconst X dL_binary_17 ?_
  refine s_perm (ws' := [oTR o b w s2 i2 p9 br lt k lp, oTk lt lpl laf lwh lre lx llen li8 ld8 lror lrl, aI G li8 60 lrn, aJ G u 1 (uI f ((0 : Int).toNat) ((iI z1).toInt))]) [1, 2, 3, 0] (by decide) rfl rfl ?_
  refine s_iretX X Y ⟨Nat.le_of_ble_eq_true rfl, Nat.le_of_ble_eq_true rfl⟩ dL_binary_18 (rfl) ?_
  refine ⟨(uI f ((0 : Int).toNat) ((iI z1).toInt)), rfl, ?_⟩
  · (first | (exfalso; omega) | (first | exact Or.inr ⟨by assumption, rfl⟩ | exact Or.inl ⟨fx_l.1, rfl, by rw [← fx_l.2]; rfl⟩))
set_option maxRecDepth 100000 in
set_option maxHeartbeats 4000000 in
theorem c_L_binaryReal (l : Launch) (hfl : l.stackTraces = false) (G : GX) (o : Nat) (b : Nat) (w : Nat) (s2 : Nat) (i2 : Nat) (p9 : Nat) (lt : Nat) (br : Int) (lp : Int) (k : Nat) (lx : Nat) (li8 : Nat) (ld8 : Nat) (lpl : Int) (laf : Int) (lwh : Int) (llen : Int) (lror : Int) (lrl : Int) (lre : UInt64) (lrr : Nat → UInt64) (u : Nat) (g : Nat → UInt64) (i : Int) (hlr : 0 ≤ lrl ∧ lrl ≤ 60) (hi : R32 i) : CtXI l G yL_binaryReal (.codeWith yL_binaryReal cL_binaryReal 4 (some .int) [(0, 8, 11, 21)]) ({ frames := 7, cells := 1, slots := 6, locals := 103 } : Room) [.ref o, .int (iI i), .ref u] [oTR o b w s2 i2 p9 br lt k lp, oTk lt lpl laf lwh lre lx llen li8 ld8 lror lrl, aF G ld8 60 lrr, aF G u 1 g] (fun (z9 : Int) (w9 : va_W) => ∃ (g2 : Nat → UInt64), w9 = [oTR o b w s2 i2 p9 br lt k lp, oTk lt lpl laf lwh lre lx llen li8 ld8 lror lrl, aF G ld8 60 lrr, aF G u 1 g2] ∧ (((0 ≤ i ∧ i < lrl) ∧ z9 = 0 ∧ g2 0 = lrr i.toNat) ∨ (¬ (0 ≤ i ∧ i < lrl) ∧ z9 = 1))) (fun (E9 : String) (w9 : va_W) => False) := by
  intro sz
  refine metH_of hfl (fun wc sz => va_Qi (qI _) (posW G wc sz) (va_A wc sz)) _ (by decide) tk_L_binaryReal [(0, .ref o), (1, .int (iI i)), (2, .ref u)] rfl (Nat.le_of_ble_eq_true rfl) (fun K hK9 htb X Y => ?_)
  subst hK9
  replace Y : RXI K G (some .int) 1 6 _ _ := Y
  have hZ := Y.2.2.2.1
  refine s_aload_n X dL_binaryReal_0 rfl 2 rfl ?_
  refine s_iconst X dL_binaryReal_1 ?_
  refine s_aload_n X dL_binaryReal_2 rfl 0 rfl ?_
  refine s_iload_n X dL_binaryReal_3 rfl 1 rfl ?_
  refine s_callXD X hZ lk_L_23 [0, 1, 2] [3] (wr := [aF G u 1 g]) rfl rfl (by decide) (by decide) (by decide) (c_X5_binaryReal (kl K) hfl G o b w s2 i2 p9 lt br lp k lx li8 ld8 lpl laf lwh llen lror lrl lre lrr i (by omega) (by omega)) rfl rfl dL_binaryReal_4 rfl rfl (Nat.le_of_ble_eq_true rfl) ⟨⟨Nat.le_of_ble_eq_true rfl, Nat.le_of_ble_eq_true rfl⟩, Nat.le_of_ble_eq_true rfl, Nat.le_of_ble_eq_true rfl⟩ (fun z1 w1 h1 => ?_) (fun E1 w1 h1 => ?_)
  rotate_left
  · obtain ⟨rfl, rfl, x1_0⟩ := h1
    refine s_catch (name := tIOB) (hpc := 11) X hZ [] ⟨0, 8, 11, 21⟩ [] (by rw [htb]; rfl) (fun z hz => absurd hz List.not_mem_nil) (by decide) (by decide) tk_L_21 (by decide) rfl (fun q1 => ?_)
    show SW K G 4 1 6 11 [(0, .ref o), (1, .int (iI i)), (2, .ref u)] [.ref q1] [aF G u 1 g, oTR o b w s2 i2 p9 br lt k lp, oTk lt lpl laf lwh lre lx llen li8 ld8 lror lrl, aF G ld8 60 lrr]
    refine s_astore_n X dL_binaryReal_11 rfl [(3, .ref q1), (0, .ref o), (1, .int (iI i)), (2, .ref u)] (by decide) rfl ?_
    refine s_iconst X dL_binaryReal_12 ?_
    refine s_perm (ws' := [oTR o b w s2 i2 p9 br lt k lp, oTk lt lpl laf lwh lre lx llen li8 ld8 lror lrl, aF G ld8 60 lrr, aF G u 1 g]) [1, 2, 3, 0] (by decide) rfl rfl ?_
    refine s_iretX X Y ⟨Nat.le_of_ble_eq_true rfl, Nat.le_of_ble_eq_true rfl⟩ dL_binaryReal_13 (rfl) ?_
    refine ⟨g, rfl, ?_⟩
    · (first | (exfalso; omega) | (first | exact Or.inr ⟨by assumption, rfl⟩ | exact Or.inl ⟨by assumption, rfl, rfl⟩))
  obtain ⟨rfl, rfl, f1_0⟩ := h1
  show SW K G 4 1 6 7 [(0, .ref o), (1, .int (iI i)), (2, .ref u)] [.double (lrr i.toNat), .int (iI 0), .ref u] [aF G u 1 g, oTR o b w s2 i2 p9 br lt k lp, oTk lt lpl laf lwh lre lx llen li8 ld8 lror lrl, aF G ld8 60 lrr]
  refine s_dast X dL_binaryReal_7 0 rfl (by omega) [aF G u 1 (uD g ((0 : Int).toNat) (lrr i.toNat)), oTR o b w s2 i2 p9 br lt k lp, oTk lt lpl laf lwh lre lx llen li8 ld8 lror lrl, aF G ld8 60 lrr] rfl ?_
  refine s_goto X 14 dL_binaryReal_8 (by decide) ?_
  refine s_iconst X dL_binaryReal_14 ?_
  refine s_perm (ws' := [oTR o b w s2 i2 p9 br lt k lp, oTk lt lpl laf lwh lre lx llen li8 ld8 lror lrl, aF G ld8 60 lrr, aF G u 1 (uD g ((0 : Int).toNat) (lrr i.toNat))]) [1, 2, 3, 0] (by decide) rfl rfl ?_
  refine s_iretX X Y ⟨Nat.le_of_ble_eq_true rfl, Nat.le_of_ble_eq_true rfl⟩ dL_binaryReal_15 (rfl) ?_
  refine ⟨(uD g ((0 : Int).toNat) (lrr i.toNat)), rfl, ?_⟩
  · (first | (exfalso; omega) | (first | exact Or.inr ⟨by assumption, rfl⟩ | exact Or.inl ⟨by assumption, rfl, rfl⟩))
set_option maxRecDepth 100000 in
set_option maxHeartbeats 4000000 in
theorem c_L_octet (l : Launch) (hfl : l.stackTraces = false) (G : GX) (o : Nat) (b : Nat) (w : Nat) (s2 : Nat) (i2 : Nat) (p9 : Nat) (lt : Nat) (br : Int) (lp : Int) (k : Nat) (a : Nat) (n : Int) (rd : Int) (e : Int) (B : Nat → Nat) (u : Nat) (f : Nat → Int) (i : Int) (hn : 0 ≤ n ∧ n ≤ 3000) (hBb : ∀ j, B j < 256) (hi : R32 i) : CtXI l G yL_octet (.codeWith yL_octet cL_octet 4 (some .int) [(0, 9, 12, 31)]) ({ frames := 8, cells := 1, slots := 6, locals := 116 } : Room) [.ref o, .int (iI i), .ref u] [oTR o b w s2 i2 p9 br lt k lp, oBy b a n rd e, aB G a 3000 B, aJ G u 1 f] (fun (z9 : Int) (w9 : va_W) => ∃ (f2 : Nat → Int), w9 = [oTR o b w s2 i2 p9 br lt k lp, oBy b a n rd e, aB G a 3000 B, aJ G u 1 f2] ∧ (((0 ≤ i ∧ i < n) ∧ z9 = 0 ∧ f2 0 = sg8 (B i.toNat)) ∨ (¬ (0 ≤ i ∧ i < n) ∧ z9 = 1))) (fun (E9 : String) (w9 : va_W) => False) := by
  intro sz
  refine metH_of hfl (fun wc sz => va_Qi (qI _) (posW G wc sz) (va_A wc sz)) _ (by decide) tk_L_octet [(0, .ref o), (1, .int (iI i)), (2, .ref u)] rfl (Nat.le_of_ble_eq_true rfl) (fun K hK9 htb X Y => ?_)
  subst hK9
  replace Y : RXI K G (some .int) 1 6 _ _ := Y
  have hZ := Y.2.2.2.1
  refine s_aload_n X dL_octet_0 rfl 2 rfl ?_
  refine s_iconst X dL_octet_1 ?_
  refine s_aload_n X dL_octet_2 rfl 0 rfl ?_
  refine s_iload_n X dL_octet_3 rfl 1 rfl ?_
  refine s_callXI X hZ lk_L_27 [0, 1, 2] [3] (wr := [aJ G u 1 f]) rfl rfl (by decide) (by decide) (by decide) (c_X5_octet (kl K) hfl G o b w s2 i2 p9 lt br lp k a n rd e B i (by assumption) (by assumption) (by omega)) rfl rfl dL_octet_4 rfl rfl (Nat.le_of_ble_eq_true rfl) ⟨⟨Nat.le_of_ble_eq_true rfl, Nat.le_of_ble_eq_true rfl⟩, Nat.le_of_ble_eq_true rfl, Nat.le_of_ble_eq_true rfl⟩ (fun z1 w1 h1 => ?_) (fun E1 w1 h1 => ?_)
  rotate_left
  · obtain ⟨rfl, rfl, x1_0⟩ := h1
    refine s_catch (name := tAIO) (hpc := 12) X hZ [] ⟨0, 9, 12, 31⟩ [] (by rw [htb]; rfl) (fun z hz => absurd hz List.not_mem_nil) (by decide) (by decide) tk_L_31 (by decide) rfl (fun q1 => ?_)
    show SW K G 4 1 6 12 [(0, .ref o), (1, .int (iI i)), (2, .ref u)] [.ref q1] [aJ G u 1 f, oTR o b w s2 i2 p9 br lt k lp, oBy b a n rd e, aB G a 3000 B]
    refine s_astore_n X dL_octet_12 rfl [(3, .ref q1), (0, .ref o), (1, .int (iI i)), (2, .ref u)] (by decide) rfl ?_
    refine s_iconst X dL_octet_13 ?_
    refine s_perm (ws' := [oTR o b w s2 i2 p9 br lt k lp, oBy b a n rd e, aB G a 3000 B, aJ G u 1 f]) [1, 2, 3, 0] (by decide) rfl rfl ?_
    refine s_iretX X Y ⟨Nat.le_of_ble_eq_true rfl, Nat.le_of_ble_eq_true rfl⟩ dL_octet_14 (rfl) ?_
    refine ⟨f, rfl, ?_⟩
    · (first | (exfalso; omega) | (first | exact Or.inr ⟨by assumption, rfl⟩ | exact Or.inl ⟨by assumption, rfl, rfl⟩))
  obtain ⟨rfl, rfl, f1_0⟩ := h1
  show SW K G 4 1 6 7 [(0, .ref o), (1, .int (iI i)), (2, .ref u)] [.int (iI (sg8 (B i.toNat))), .int (iI 0), .ref u] [aJ G u 1 f, oTR o b w s2 i2 p9 br lt k lp, oBy b a n rd e, aB G a 3000 B]
  refine s_i2l X dL_octet_7 (by have h9 := sg8_R _ (hBb i.toNat); omega) ?_
  refine s_last X dL_octet_8 0 rfl (by omega) [aJ G u 1 (uI f ((0 : Int).toNat) (sg8 (B i.toNat))), oTR o b w s2 i2 p9 br lt k lp, oBy b a n rd e, aB G a 3000 B] rfl ?_
  refine s_goto X 15 dL_octet_9 (by decide) ?_
  refine s_iconst X dL_octet_15 ?_
  refine s_perm (ws' := [oTR o b w s2 i2 p9 br lt k lp, oBy b a n rd e, aB G a 3000 B, aJ G u 1 (uI f ((0 : Int).toNat) (sg8 (B i.toNat)))]) [1, 2, 3, 0] (by decide) rfl rfl ?_
  refine s_iretX X Y ⟨Nat.le_of_ble_eq_true rfl, Nat.le_of_ble_eq_true rfl⟩ dL_octet_16 (rfl) ?_
  refine ⟨(uI f ((0 : Int).toNat) (sg8 (B i.toNat))), rfl, ?_⟩
  · (first | (exfalso; omega) | (first | exact Or.inr ⟨by assumption, rfl⟩ | exact Or.inl ⟨by assumption, rfl, rfl⟩))
