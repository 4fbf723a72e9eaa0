theorem rtA_k1 {q n e p k : Int} (h : rtA q n e p 1 = 1) : rtA q n e p k = k := by
  unfold rtA at h ⊢
  split at h
  · exact absurd h (by decide)
  · rename_i c
    split at h
    · exact absurd h (by decide)
    · rename_i c2; rw [if_neg c, if_neg c2]
theorem rtA_kn {q n e p k : Int} (h : ¬ rtA q n e p 1 = 1) : rtA q n e p k = rtA q n e p 1 := by
  unfold rtA at h ⊢
  split at h
  · rename_i c; rw [if_pos c, if_pos c]
  · rename_i c
    split at h
    · rename_i c2; rw [if_neg c, if_pos c2, if_neg c, if_pos c2]
    · exact absurd rfl h
theorem sl_1 {B : Nat → Nat} {n p : Int} (h : bA B n (p + 1) = 47) : slS B n p = p + 1 + 1 ∧ slK B n p = 5 := by
  unfold slS slK; rw [if_pos h, if_pos h]; exact ⟨by omega, rfl⟩
theorem sl_0 {B : Nat → Nat} {n p : Int} (h : ¬ bA B n (p + 1) = 47) : slS B n p = p + 1 ∧ slK B n p = 4 := by
  unfold slS slK; rw [if_neg h, if_neg h]; exact ⟨rfl, rfl⟩
