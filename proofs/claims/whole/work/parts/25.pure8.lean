theorem uu_Rk {B : Nat → Nat} {n i w lf : Int} (hB : ∀ j, B j < 256) (hi : 0 ≤ i ∧ i + w ≤ n) (hlf : lf = 0 ∨ lf = 1) : ∀ k : Nat, (k : Int) ≤ w → 0 ≤ uu B n i w lf k ∧ uu B n i w lf k < 256 ^ k
  | 0, _ => by simp [uu]
  | k + 1, hk => by
    have ih := uu_Rk hB hi hlf k (by omega)
    have hc := bA_C n (if lf = 0 then i + (k : Int) else i + w - 1 - (k : Int)) hB
    have hb : 0 ≤ bA B n (if lf = 0 then i + (k : Int) else i + w - 1 - (k : Int)) ∧ bA B n (if lf = 0 then i + (k : Int) else i + w - 1 - (k : Int)) < 256 := by
      rcases hlf with e | e <;> subst e <;> simp at hc ⊢ <;> omega
    simp only [uu]
    rw [Int.pow_succ]
    omega
theorem uu_R {B : Nat → Nat} {n i w lf : Int} (hB : ∀ j, B j < 256) (hi : 0 ≤ i ∧ i + w ≤ n) (hw : w = 1 ∨ w = 2 ∨ w = 4) (hlf : lf = 0 ∨ lf = 1) : uR w (uu B n i w lf w.toNat) := by
  have h := uu_Rk hB hi hlf w.toNat (by omega)
  rcases hw with e | e | e <;> subst e
  · exact Or.inl ⟨rfl, h⟩
  · exact Or.inr (Or.inl ⟨rfl, h⟩)
  · exact Or.inr (Or.inr ⟨rfl, h⟩)
theorem nmb_R {B : Nat → Nat} {n i w lf : Int} (hB : ∀ j, B j < 256) (hi : 0 ≤ i ∧ i + w ≤ n) (hw : w = 1 ∨ w = 2 ∨ w = 4) (hlf : lf = 0 ∨ lf = 1) : R32 (nmb B n i w lf) := sgn_R (uu_R hB hi hw hlf)
theorem nuA_n {n e q kd : Int} (h : ¬ q ≤ n) : (if e = 0 then 0 else -7) = nuA n e q kd := (if_neg h).symm
theorem nuA_y {n e q kd : Int} (h : q ≤ n) : kd = nuA n e q kd := (if_pos h).symm
theorem lk_n {n e q af : Int} (h : ¬ q ≤ n) (h0 : (if e = 0 then (0 : Int) else -7) ≠ 0) : (if e = 0 then af else n) = lkF n q := by
  unfold lkF; rw [if_neg h, if_neg (fun c => h0 (by rw [if_pos c]))]
theorem lk_y {n q : Int} (h : q ≤ n) : q = lkF n q := (if_pos h).symm
theorem nuA_pos {n e q kd : Int} (h : 0 < nuA n e q kd) : q ≤ n := by
  unfold nuA at h; split at h
  · assumption
  · split at h <;> omega
