/-! the reference's read: what it leaves to be kept -/
theorem one_1 {α : Type} (P : Prop) [Decidable P] (a b : α) : (if (1 : Int) = 1 ∧ P then a else b) = if P then a else b := by
  by_cases h : P
  · rw [if_pos ⟨rfl, h⟩, if_pos h]
  · rw [if_neg (fun q => h q.2), if_neg h]
theorem one_0 {α : Type} (P : Prop) [Decidable P] (a b : α) : (if (0 : Int) = 1 ∧ P then a else b) = b := if_neg (fun q => absurd q.1 (by decide))
theorem tr_13 {P : Prop} [Decidable P] {n e q k : Int} (h : 0 < (if P then -5 else nuA n e q k)) : (if P then -5 else nuA n e q k) = k := by
  by_cases c : P
  · rw [if_pos c] at h; omega
  · rw [if_neg c] at h ⊢; exact (nuA_kd h).1
theorem rwA_le {B : Nat → Nat} {n e p : Int} (h : rwA B n e p = 16) : rwM B n p ≤ 60 := by
  unfold rwA nuA at h
  split at h
  · omega
  · split at h
    · split at h
      · split at h <;> omega
      · split at h <;> omega
    · split at h <;> omega
section BIG2
variable {B : Nat → Nat} {n e p z nw ns nrw nir c base nb : Int} {nr : UInt64} {t : Nat → Nat} {yi : Nat → Int} {yd : Nat → UInt64}
theorem BiG_16 (hB : ∀ j, B j < 256) (hp : 0 ≤ p) (hz : rwA B n e p = 16) (hn : nw = rwM B n p ∧ nrw = rwM B n p ∧ nir = tf (rwR (bA B n (p + 1))) ∧ ∀ j : Int, 0 ≤ j → j < rwM B n p → (rwR (bA B n (p + 1)) → yd j.toNat = rwD B n (p + 4) (bA B n (p + 1)) j) ∧ (¬ rwR (bA B n (p + 1)) → yi j.toNat = rwZ B n (p + 4) (bA B n (p + 1)) j)) : BiG B n p 149 16 nw ns nrw nir nr t yi yd := by
  obtain ⟨b1, b2, b3, b4, b5, b6, b7⟩ := bi_149 B n e p
  obtain ⟨h1, h2, h3, h4⟩ := hn
  have hle := rwA_le hz
  have h4n : p + 4 ≤ n := by
    unfold rwA at hz
    split at hz
    · omega
    · exact nuA_pos (by rw [hz]; decide)
  have hu := uu_R (B := B) (n := n) (i := p + 2) (w := 2) (lf := lfO (bA B n (p + 1))) hB (by omega) (by omega) (lfO_c _)
  have h0 : 0 ≤ rwM B n p := by
    have h8 : rwM B n p = uu B n (p + 2) 2 (lfO (bA B n (p + 1))) (2 : Int).toNat := rfl
    rw [← h8] at hu; omega
  refine ⟨?_, ?_, fun h => by omega, fun _ => b6, ?_, fun _ => ⟨by omega, by omega, h3, ?_⟩⟩
  · rw [if_neg (by decide), b4]; exact h1
  · rw [if_neg (by decide)]; exact b5.symm
  · rw [if_pos rfl, b7, h2]
  · rw [h2]; exact h4
/-- what read leaves to be kept -/
def RdG (B : Nat → Nat) (n e p c base z nw nb ns nrw nir : Int) (nr : UInt64) (t : Nat → Nat) (yi : Nat → Int) (yd : Nat → UInt64) : Prop :=
  (if z = 2 ∨ (7 ≤ z ∧ z ≤ 12) then 0 else nw) = rtW B n e p c ∧ (if z = 2 then nr else FP.dconst0) = rtR B n e p c ∧ (3 ≤ z ∧ z ≤ 6 → TY t ns (rtO B n e p c) ∧ ns ≤ 400) ∧ (¬ (3 ≤ z ∧ z ≤ 6) → rtO B n e p c = []) ∧ rtL B n p c = (if z = 16 then nrw else 0) ∧
  (z = 16 → 0 ≤ nrw ∧ nrw ≤ 60 ∧ nir = tf (rwR (bA B n (p + 1))) ∧ ∀ j : Int, 0 ≤ j → j < nrw → (rwR (bA B n (p + 1)) → yd j.toNat = rwD B n (p + 4) (bA B n (p + 1)) j) ∧ (¬ rwR (bA B n (p + 1)) → yi j.toNat = rwZ B n (p + 4) (bA B n (p + 1)) j)) ∧
  (if z = 1 ∧ 0 < nb then nb else base) = rtB B n e p c base
theorem RdG_bin (hc : isB c) (hb : nb = 0) (hz : z = biA B n e p c) (h0 : 0 < z) (h : BiG B n p c z nw ns nrw nir nr t yi yd) : RdG B n e p c base z nw nb ns nrw nir nr t yi yd := by
  obtain ⟨r1, r2, r3, r4, r5, r6, r7, r8⟩ := rt_bin hc B n e p 0 base
  obtain ⟨g1, g2, g3, g4, g5, g6⟩ := h
  have hk := biA_K B n e p c
  rw [← hz] at hk
  refine ⟨?_, by rw [r5]; exact g2, fun h9 => by rw [r6]; exact g3 (by omega), fun h9 => by rw [r6]; exact g4 (by omega), by rw [r7]; exact g5, g6, ?_⟩
  · rw [r4, ← g1]
    by_cases c2 : z = 2
    · rw [if_pos (Or.inl c2), if_pos c2]
    · rw [if_neg (by omega), if_neg c2]
  · rw [r8, if_neg (by omega)]
theorem wBs_pos {w : Int → Int} {len : Int} (h : wA w len = 1) : 0 < wBs w len := by
  unfold wBs
  unfold wA at h
  split at h
  · rw [if_pos (by assumption)]; decide
  · rw [if_neg (by assumption)]
    split at h
    · have := rrA_c w len; omega
    · unfold rbA at h
      split at h
      · rename_i h5; have := h5.2.2.2.1; omega
      · omega
theorem RdG_wd (hc : noT c) (hz : z = wdA B n e p) (h0 : 0 < z) (f1 : z = 1 → nw = wV (wd B p (we B n p)) (we B n p - p) ∧ nb = wBs (wd B p (we B n p)) (we B n p - p)) (f2 : z = 2 → nr = rrV (wd B p (we B n p)) (we B n p - p)) (f3 : z = 3 → nw = we B n p - p ∧ TY t ns (wL B p (we B n p - p).toNat)) (f4 : 0 ≤ ns ∧ ns ≤ 100) : RdG B n e p c base z nw nb ns nrw nir nr t yi yd := by
  obtain ⟨r1, r2, r3, r4, r5, r6, r7, r8⟩ := rt_def hc B n e p 0 base
  have hC := wdA_C B n e p
  rw [← hz] at hC
  have hk : z = 1 ∨ z = 2 ∨ z = 3 := by omega
  have hw1 : z = 1 → 0 < nb := fun h1 => by
    rw [(f1 h1).2]
    refine wBs_pos ?_
    have h2 := hz
    rw [h1] at h2
    unfold wdA at h2
    split at h2
    · omega
    · split at h2
      · omega
      · exact h2.symm
  refine ⟨?_, ?_, fun h9 => ?_, fun h9 => ?_, ?_, fun h9 => by omega, ?_⟩
  · rw [r4]; unfold wdW; rw [← hz]
    rcases hk with h | h | h
    · rw [if_neg (by omega), if_pos h]; exact (f1 h).1
    · rw [if_pos (by omega), if_neg (by omega), if_neg (by omega)]
    · rw [if_neg (by omega), if_neg (by omega), if_pos h]; exact (f3 h).1
  · rw [r5]; unfold wdR; rw [← hz]
    by_cases h : z = 2
    · rw [if_pos h, if_pos h]; exact f2 h
    · rw [if_neg h, if_neg h]
  · have h : z = 3 := by omega
    rw [r6]; unfold wdO; rw [← hz, if_pos h]; exact ⟨(f3 h).2, by omega⟩
  · rw [r6]; unfold wdO; rw [← hz, if_neg (by omega)]
  · rw [r7, if_neg (by omega)]
  · rw [r8]; unfold wdB; rw [← hz]
    by_cases h : z = 1
    · rw [if_pos ⟨h, hw1 h⟩, if_pos h]; exact (f1 h).2
    · rw [if_neg (fun q => h q.1), if_neg h]
/-- the other kinds: no NUMBER, no ROW -/
theorem RdG_o (h0 : z = 4 ∨ z = 5 ∨ z = 6 ∨ (7 ≤ z ∧ z ≤ 12)) (hw : (if 7 ≤ z then 0 else nw) = rtW B n e p c) (hr : rtR B n e p c = FP.dconst0) (ho : z ≤ 6 → TY t ns (rtO B n e p c) ∧ ns ≤ 400) (ho2 : 7 ≤ z → rtO B n e p c = []) (hl : rtL B n p c = 0) (hb : rtB B n e p c base = base) : RdG B n e p c base z nw nb ns nrw nir nr t yi yd := by
  refine ⟨?_, ?_, fun h9 => ho (by omega), fun h9 => ho2 (by omega), ?_, fun h9 => by omega, ?_⟩
  · rw [← hw]
    by_cases h : 7 ≤ z
    · rw [if_pos (by omega), if_pos h]
    · rw [if_neg (by omega), if_neg h]
  · rw [if_neg (by omega)]; exact hr.symm
  · rw [if_neg (by omega)]; exact hl
  · rw [hb, if_neg (by omega)]
theorem TY_400 {o : List Nat} {e : Int} {r : SR} (h : stA e r = 6) (hr : o = r.2.2) : (o.length : Int) ≤ 400 := by
  subst hr
  unfold stA at h
  (repeat' split at h) <;> omega
theorem ls_kind (h : 0 < lsA B n e p) : (lsA B n e p = 11 ∧ bA B n (p + 1) = 60) ∨ (lsA B n e p = 6 ∧ lsO B n p = (lsR B n p).2.2 ∧ stA e (lsR B n p) = 6 ∧ ¬ bA B n (p + 1) = 60) := by
  unfold lsA lsO at *
  by_cases c1 : bA B n (p + 1) = -1
  · rw [if_pos c1] at h; split at h <;> omega
  · rw [if_neg c1] at h ⊢
    by_cases c2 : bA B n (p + 1) = 60
    · rw [if_pos c2]; exact Or.inl ⟨rfl, c2⟩
    · rw [if_neg c2] at h
      rw [if_neg c2, if_neg c2]
      have := stA_C e (lsR B n p)
      exact Or.inr ⟨by omega, rfl, by omega, c2⟩
theorem rtA_kind {q i0 kd : Int} (h : 0 < rtA q n e i0 kd) : rtA q n e i0 kd = kd ∧ q - i0 ≤ 100 := by
  have := rtA_C q n e i0 kd; omega
end BIG2
theorem fi_01 {a b : Int} {P : Prop} [Decidable P] (h : a = (if b = 1 ∨ P then 1 else 0)) : a = 0 ∨ a = 1 := by
  rw [h]; split
  · exact Or.inr rfl
  · exact Or.inl rfl
theorem fi_1 {a b : Int} {P : Prop} [Decidable P] (h : a = (if b = 1 ∨ P then 1 else 0)) (hb : b = 0) (ha : ¬ a = 0) : P := by
  by_cases c : P
  · exact c
  · rw [if_neg (fun q => q.elim (fun q1 => by omega) c)] at h; exact absurd h ha
theorem fi_0 {a b : Int} {P : Prop} [Decidable P] (h : a = (if b = 1 ∨ P then 1 else 0)) (ha : a = 0) : ¬ P := by
  intro c
  rw [if_pos (Or.inr c)] at h; omega
theorem gr_4 {B : Nat → Nat} {n e p : Int} (h : ¬ e = 0 ∨ bA B n (p + 1) ≠ -1) (h2 : ¬ bA B n (p + 1) = 62) : grA B n e p = -4 ∧ grF B n p = p + 1 := by
  unfold grA grF
  rw [if_neg h2, if_neg h2]
  refine ⟨?_, rfl⟩
  by_cases c : bA B n (p + 1) = -1
  · rw [if_pos c, if_neg (h.resolve_right (fun q => q c))]
  · rw [if_neg c]
