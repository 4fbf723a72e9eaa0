abbrev biK (v : Int) : Prop := v ≤ 0 ∨ v = 1 ∨ v = 2 ∨ v = 6 ∨ v = 13 ∨ v = 14 ∨ v = 15 ∨ v = 16
theorem biK_of {v k : Int} (h : 0 < v → v = k) (hk : biK k) : biK v := by
  by_cases c : 0 < v
  · rw [h c]; exact hk
  · exact Or.inl (by omega)
theorem biK_ite {c : Prop} [Decidable c] {a b : Int} (ha : biK a) (hb : biK b) : biK (if c then a else b) := by
  by_cases h : c
  · rw [if_pos h]; exact ha
  · rw [if_neg h]; exact hb
theorem biA_K (B : Nat → Nat) (n e p c : Int) : biK (biA B n e p c) := by
  unfold biA
  repeat' (refine biK_ite ?_ ?_)
  all_goals first
    | exact biK_of (fun h => (nuA_kd h).1) (by decide)
    | exact biK_of (fun h => fl_2 h) (by decide)
    | exact biK_of (fun h => fxA_2 h) (by decide)
    | exact biK_of (fun h => sbA_6 h) (by decide)
    | exact biK_of (fun h => rwA_16 h) (by decide)
    | decide
theorem biA_C (B : Nat → Nat) (n e p c : Int) : biA B n e p c ≠ 9 ∧ biA B n e p c ≠ 10 := by
  have := biA_K B n e p c; omega
theorem wd_fin {B t2 : Nat → Nat} {n e p z wh2 len2 base2 : Int} {re re2 : UInt64} (g0 : z = wdA B n e p) (g2 : z = 1 → wh2 = wV (wd B p (we B n p)) (we B n p - p) ∧ base2 = wBs (wd B p (we B n p)) (we B n p - p) ∧ len2 = 0 ∧ re2 = re) (g3 : z = 2 → re2 = rrV (wd B p (we B n p)) (we B n p - p) ∧ wh2 = 0 ∧ len2 = 0) (g4 : z = 3 → wh2 = we B n p - p ∧ len2 = we B n p - p ∧ bA t2 len2 = wd B p (we B n p) ∧ re2 = re) (g6 : 0 ≤ len2 ∧ len2 ≤ 401) (g7 : ∀ j, t2 j < 256) (hre : re = FP.dconst0) (h : 0 < z) : wh2 = wdW B n e p ∧ re2 = wdR B n e p ∧ TX t2 len2 (wdO B n e p) := by
  have hc := wdA_C B n e p
  rw [← g0] at hc
  unfold wdW wdR wdO
  rw [← g0]
  rcases (show z = 1 ∨ z = 2 ∨ z = 3 by omega) with e9 | e9 | e9
  · obtain ⟨a1, a2, a3, a4⟩ := g2 e9
    rw [if_pos e9, if_neg (by omega), if_neg (by omega), a3]
    exact ⟨a1, a4.trans hre, TX_0 g7⟩
  · obtain ⟨a1, a2, a3⟩ := g3 e9
    rw [if_neg (by omega), if_neg (by omega), if_pos e9, if_neg (by omega), a3]
    exact ⟨a2, a1, TX_0 g7⟩
  · obtain ⟨a1, a2, a3, a4⟩ := g4 e9
    rw [if_neg (by omega), if_pos e9, if_neg (by omega), if_pos e9]
    exact ⟨a1, a4.trans hre, TX_wd a3 a2 g6 g7⟩
theorem wd_base {B : Nat → Nat} {n e p z wh2 len2 base2 base : Int} {re re2 : UInt64} (g0 : z = wdA B n e p) (g2 : z = 1 → wh2 = wV (wd B p (we B n p)) (we B n p - p) ∧ base2 = wBs (wd B p (we B n p)) (we B n p - p) ∧ len2 = 0 ∧ re2 = re) (g5 : z ≠ 1 → base2 = base) : base2 = wdB B n e p base := by
  unfold wdB; rw [← g0]
  by_cases h : z = 1
  · rw [if_pos h]; exact (g2 h).2.1
  · rw [if_neg h]; exact g5 h
theorem lsA_C (B : Nat → Nat) (n e p : Int) : lsA B n e p = 0 ∨ lsA B n e p = -7 ∨ lsA B n e p = 11 ∨ lsA B n e p = -2 ∨ lsA B n e p = -3 ∨ lsA B n e p = 6 := by
  have h := stA_C e (lsR B n p)
  unfold lsA; (repeat' split) <;> omega
theorem grA_C (B : Nat → Nat) (n e p : Int) : grA B n e p = 0 ∨ grA B n e p = -4 ∨ grA B n e p = 12 := by
  unfold grA; (repeat' split) <;> simp
theorem ob_br (br : Int) : (if 20 ≤ br then br else br + 1) = (if (if 20 ≤ br then (-2 : Int) else 9) = 9 then br + 1 else if (if 20 ≤ br then (-2 : Int) else 9) = 10 then br - 1 else br) := by
  by_cases h : 20 ≤ br
  · simp [h]
  · simp [h]
theorem ob_bp {α : Type} (br : Int) (x y : α) : (if 20 ≤ br then x else y) = (if (if 20 ≤ br then (-2 : Int) else 9) = 9 then y else x) := by
  by_cases h : 20 ≤ br
  · simp [h]
  · simp [h]
theorem cb_br (br : Int) : (if br = 0 then br else br - 1) = (if (if br = 0 then (-4 : Int) else 10) = 9 then br + 1 else if (if br = 0 then (-4 : Int) else 10) = 10 then br - 1 else br) := by
  by_cases h : br = 0
  · simp [h]
  · simp [h]
theorem cb_bp {α : Type} (br : Int) (x y : α) : x = (if (if br = 0 then (-4 : Int) else 10) = 9 then y else x) := by
  by_cases h : br = 0
  · simp [h]
  · simp [h]
def noTT (c : Int) : Prop := noT c
theorem rt_dfl {c : Int} (h : noTT c) (B : Nat → Nat) (n e p br base : Int) : rtN B n e p br c = wdA B n e p ∧ rtF B n p c = we B n p ∧ rtP B n p c = p ∧ rtW B n e p c = wdW B n e p ∧ rtR B n e p c = wdR B n e p ∧ rtO B n e p c = wdO B n e p ∧ rtL B n p c = 0 ∧ rtB B n e p c base = wdB B n e p base := rt_def h B n e p br base
