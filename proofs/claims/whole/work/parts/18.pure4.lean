/-! a WORD read whole: answer, value, base; and what stands behind a slash -/
def wdA (B : Nat → Nat) (n e i0 : Int) : Int := if we B n i0 = n ∧ e = 0 then 0 else if 100 < we B n i0 - i0 then -2 else wA (wd B i0 (we B n i0)) (we B n i0 - i0)
def wV (w : Int → Int) (len : Int) : Int := if riC w len then riV w len else rbV w len
def wBs (w : Int → Int) (len : Int) : Int := if riC w len then 10 else rbB w len
theorem rtA_ne {B : Nat → Nat} {n e i0 z : Int} (h : z = rtA (we B n i0) n e i0 3) (h3 : ¬ z = 3) : z = wdA B n e i0 ∧ z ≤ 0 := by
  unfold rtA at h; unfold wdA
  split at h
  · rw [if_pos (by assumption)]; omega
  · rw [if_neg (by assumption)]
    split at h
    · rw [if_pos (by assumption)]; omega
    · exact absurd h h3
theorem rtA_3 {B : Nat → Nat} {n e i0 : Int} (h : (3 : Int) = rtA (we B n i0) n e i0 3) : wdA B n e i0 = wA (wd B i0 (we B n i0)) (we B n i0 - i0) := by
  unfold rtA at h; unfold wdA
  split at h
  · exact absurd h (by decide)
  · rw [if_neg (by assumption)]
    split at h
    · exact absurd h (by decide)
    · rw [if_neg (by assumption)]
theorem riA_c (w : Int → Int) (len : Int) : (riA w len = 1 ∧ riC w len) ∨ (riA w len = 3 ∧ ¬ riC w len) := by
  unfold riA; by_cases c : riC w len
  · rw [if_pos c]; exact Or.inl ⟨rfl, c⟩
  · rw [if_neg c]; exact Or.inr ⟨rfl, c⟩
theorem rbA_c (w : Int → Int) (len : Int) : rbA w len = 1 ∨ rbA w len = 3 ∨ rbA w len = -6 := by
  unfold rbA; split
  · split <;> simp
  · simp
theorem rrA_c (w : Int → Int) (len : Int) : rrA w len = 2 ∨ rrA w len = 3 ∨ rrA w len = -6 := by
  unfold rrA; split
  · split <;> simp
  · simp
theorem wA_1 {w : Int → Int} {len : Int} (h : riC w len) : wA w len = 1 ∧ wV w len = riV w len ∧ wBs w len = 10 := ⟨if_pos h, if_pos h, if_pos h⟩
theorem wA_2 {w : Int → Int} {len : Int} (h : ¬ riC w len) (h2 : ¬ rbA w len = 3) : wA w len = rbA w len ∧ wV w len = rbV w len ∧ wBs w len = rbB w len := ⟨by rw [wA, if_neg h, if_neg h2], if_neg h, if_neg h⟩
theorem wA_3 {w : Int → Int} {len : Int} (h : ¬ riC w len) (h2 : rbA w len = 3) : wA w len = rrA w len := by rw [wA, if_neg h, if_pos h2]
def slK (B : Nat → Nat) (n i0 : Int) : Int := if bA B n (i0 + 1) = 47 then 5 else 4
def slS (B : Nat → Nat) (n i0 : Int) : Int := if bA B n (i0 + 1) = 47 then i0 + 2 else i0 + 1
