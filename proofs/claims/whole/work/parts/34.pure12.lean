theorem fl_2 {n e q z : Int} (h : 0 < nuA n e q (if eb z = 255 then -6 else 2)) : nuA n e q (if eb z = 255 then -6 else 2) = 2 := by
  have a := nuA_kd h
  rw [a.1] at h ⊢
  split at h
  · omega
  · rw [if_neg (by assumption)]
abbrev noB (c : Int) : Prop := ¬ c = 132 ∧ ¬ c = 133 ∧ ¬ c = 134 ∧ ¬ c = 135 ∧ ¬ c = 136 ∧ ¬ c = 137 ∧ ¬ c = 138 ∧ ¬ c = 139 ∧ ¬ c = 141 ∧ ¬ c = 142 ∧ ¬ c = 143 ∧ ¬ c = 144 ∧ ¬ c = 145 ∧ ¬ c = 146 ∧ ¬ c = 149
theorem biA_d {B : Nat → Nat} {n e p c : Int} (h : noB c) : -5 = biA B n e p c := by
  obtain ⟨h1, h2, h3, h4, h5, h6, h7, h8, h9, ha, hb, hc, hd, he, hf⟩ := h
  unfold biA
  simp only [h1, h2, h3, h4, h5, h6, h7, h8, h9, ha, hb, hc, hd, he, hf, if_false]
theorem biF_d {B : Nat → Nat} {n p c : Int} (h : noB c) : biF B n p c = p + 1 := by
  obtain ⟨h1, h2, h3, h4, h5, h6, h7, h8, h9, ha, hb, hc, hd, he, hf⟩ := h
  unfold biF
  simp only [h1, h2, h3, h4, h5, h6, h7, h8, h9, ha, hb, hc, hd, he, hf, if_false]
theorem biP_d {B : Nat → Nat} {n p c : Int} (h : noB c) : biP B n p c = p := by
  obtain ⟨h1, h2, h3, h4, h5, h6, h7, h8, h9, ha, hb, hc, hd, he, hf⟩ := h
  unfold biP
  simp only [h6, h9, hf, if_false]
theorem bi_132 (B : Nat → Nat) (n e p : Int) : biA B n e p 132 = nuA n e (p + 1 + 4) 1 ∧ biF B n p 132 = lkF n (p + 1 + 4) ∧ biP B n p 132 = p ∧ biW B n p 132 = nmb B n (p + 1) 4 0 ∧ biR B n p 132 = FP.dconst0 ∧ biO B n p 132 = [] ∧ biL B n p 132 = 0 := by
  refine ⟨?_, ?_, ?_, ?_, ?_, ?_, ?_⟩ <;> simp [biA, biF, biP, biW, biR, biO, biL]
theorem bi_133 (B : Nat → Nat) (n e p : Int) : biA B n e p 133 = nuA n e (p + 1 + 4) 1 ∧ biF B n p 133 = lkF n (p + 1 + 4) ∧ biP B n p 133 = p ∧ biW B n p 133 = nmb B n (p + 1) 4 1 ∧ biR B n p 133 = FP.dconst0 ∧ biO B n p 133 = [] ∧ biL B n p 133 = 0 := by
  refine ⟨?_, ?_, ?_, ?_, ?_, ?_, ?_⟩ <;> simp [biA, biF, biP, biW, biR, biO, biL]
theorem bi_134 (B : Nat → Nat) (n e p : Int) : biA B n e p 134 = nuA n e (p + 1 + 2) 1 ∧ biF B n p 134 = lkF n (p + 1 + 2) ∧ biP B n p 134 = p ∧ biW B n p 134 = nmb B n (p + 1) 2 0 ∧ biR B n p 134 = FP.dconst0 ∧ biO B n p 134 = [] ∧ biL B n p 134 = 0 := by
  refine ⟨?_, ?_, ?_, ?_, ?_, ?_, ?_⟩ <;> simp [biA, biF, biP, biW, biR, biO, biL]
theorem bi_135 (B : Nat → Nat) (n e p : Int) : biA B n e p 135 = nuA n e (p + 1 + 2) 1 ∧ biF B n p 135 = lkF n (p + 1 + 2) ∧ biP B n p 135 = p ∧ biW B n p 135 = nmb B n (p + 1) 2 1 ∧ biR B n p 135 = FP.dconst0 ∧ biO B n p 135 = [] ∧ biL B n p 135 = 0 := by
  refine ⟨?_, ?_, ?_, ?_, ?_, ?_, ?_⟩ <;> simp [biA, biF, biP, biW, biR, biO, biL]
theorem bi_136 (B : Nat → Nat) (n e p : Int) : biA B n e p 136 = nuA n e (p + 1 + 1) 1 ∧ biF B n p 136 = lkF n (p + 1 + 1) ∧ biP B n p 136 = p ∧ biW B n p 136 = nmb B n (p + 1) 1 0 ∧ biR B n p 136 = FP.dconst0 ∧ biO B n p 136 = [] ∧ biL B n p 136 = 0 := by
  refine ⟨?_, ?_, ?_, ?_, ?_, ?_, ?_⟩ <;> simp [biA, biF, biP, biW, biR, biO, biL]
theorem bi_137 (B : Nat → Nat) (n e p : Int) : biA B n e p 137 = fxA B n e p ∧ biF B n p 137 = fxF B n p ∧ biP B n p 137 = fxP B n p ∧ biW B n p 137 = 0 ∧ biR B n p 137 = fxR B n p ∧ biO B n p 137 = [] ∧ biL B n p 137 = 0 := by
  refine ⟨?_, ?_, ?_, ?_, ?_, ?_, ?_⟩ <;> simp [biA, biF, biP, biW, biR, biO, biL]
theorem bi_138 (B : Nat → Nat) (n e p : Int) : biA B n e p 138 = nuA n e (p + 1 + 4) (if eb (nmb B n (p + 1) 4 0) = 255 then -6 else 2) ∧ biF B n p 138 = lkF n (p + 1 + 4) ∧ biP B n p 138 = p ∧ biW B n p 138 = 0 ∧ biR B n p 138 = flV (nmb B n (p + 1) 4 0) ∧ biO B n p 138 = [] ∧ biL B n p 138 = 0 := by
  refine ⟨?_, ?_, ?_, ?_, ?_, ?_, ?_⟩ <;> simp [biA, biF, biP, biW, biR, biO, biL]
theorem bi_139 (B : Nat → Nat) (n e p : Int) : biA B n e p 139 = nuA n e (p + 1 + 4) (if eb (nmb B n (p + 1) 4 1) = 255 then -6 else 2) ∧ biF B n p 139 = lkF n (p + 1 + 4) ∧ biP B n p 139 = p ∧ biW B n p 139 = 0 ∧ biR B n p 139 = flV (nmb B n (p + 1) 4 1) ∧ biO B n p 139 = [] ∧ biL B n p 139 = 0 := by
  refine ⟨?_, ?_, ?_, ?_, ?_, ?_, ?_⟩ <;> simp [biA, biF, biP, biW, biR, biO, biL]
theorem bi_141 (B : Nat → Nat) (n e p : Int) : biA B n e p 141 = (if 1 < bA B n (p + 1) then -5 else nuA n e (p + 1 + 1) 13) ∧ biF B n p 141 = lkF n (p + 1 + 1) ∧ biP B n p 141 = (if 1 < bA B n (p + 1) then p + 1 else p) ∧ biW B n p 141 = bA B n (p + 1) ∧ biR B n p 141 = FP.dconst0 ∧ biO B n p 141 = [] ∧ biL B n p 141 = 0 := by
  refine ⟨?_, ?_, ?_, ?_, ?_, ?_, ?_⟩ <;> simp [biA, biF, biP, biW, biR, biO, biL]
theorem bi_142 (B : Nat → Nat) (n e p : Int) : biA B n e p 142 = sbA B n e p 1 0 ∧ biF B n p 142 = sbF B n p 1 0 ∧ biP B n p 142 = p ∧ biW B n p 142 = sbM B n p 1 0 ∧ biR B n p 142 = FP.dconst0 ∧ biO B n p 142 = wL B (p + 1 + 1) (sbM B n p 1 0).toNat ∧ biL B n p 142 = 0 := by
  refine ⟨?_, ?_, ?_, ?_, ?_, ?_, ?_⟩ <;> simp [biA, biF, biP, biW, biR, biO, biL]
theorem bi_143 (B : Nat → Nat) (n e p : Int) : biA B n e p 143 = sbA B n e p 2 0 ∧ biF B n p 143 = sbF B n p 2 0 ∧ biP B n p 143 = p ∧ biW B n p 143 = sbM B n p 2 0 ∧ biR B n p 143 = FP.dconst0 ∧ biO B n p 143 = wL B (p + 1 + 2) (sbM B n p 2 0).toNat ∧ biL B n p 143 = 0 := by
  refine ⟨?_, ?_, ?_, ?_, ?_, ?_, ?_⟩ <;> simp [biA, biF, biP, biW, biR, biO, biL]
theorem bi_144 (B : Nat → Nat) (n e p : Int) : biA B n e p 144 = sbA B n e p 2 1 ∧ biF B n p 144 = sbF B n p 2 1 ∧ biP B n p 144 = p ∧ biW B n p 144 = sbM B n p 2 1 ∧ biR B n p 144 = FP.dconst0 ∧ biO B n p 144 = wL B (p + 1 + 2) (sbM B n p 2 1).toNat ∧ biL B n p 144 = 0 := by
  refine ⟨?_, ?_, ?_, ?_, ?_, ?_, ?_⟩ <;> simp [biA, biF, biP, biW, biR, biO, biL]
theorem bi_145 (B : Nat → Nat) (n e p : Int) : biA B n e p 145 = nuA n e (p + 1 + 1) 14 ∧ biF B n p 145 = lkF n (p + 1 + 1) ∧ biP B n p 145 = p ∧ biW B n p 145 = bA B n (p + 1) ∧ biR B n p 145 = FP.dconst0 ∧ biO B n p 145 = [] ∧ biL B n p 145 = 0 := by
  refine ⟨?_, ?_, ?_, ?_, ?_, ?_, ?_⟩ <;> simp [biA, biF, biP, biW, biR, biO, biL]
theorem bi_146 (B : Nat → Nat) (n e p : Int) : biA B n e p 146 = nuA n e (p + 1 + 1) 15 ∧ biF B n p 146 = lkF n (p + 1 + 1) ∧ biP B n p 146 = p ∧ biW B n p 146 = bA B n (p + 1) ∧ biR B n p 146 = FP.dconst0 ∧ biO B n p 146 = [] ∧ biL B n p 146 = 0 := by
  refine ⟨?_, ?_, ?_, ?_, ?_, ?_, ?_⟩ <;> simp [biA, biF, biP, biW, biR, biO, biL]
theorem bi_149 (B : Nat → Nat) (n e p : Int) : biA B n e p 149 = rwA B n e p ∧ biF B n p 149 = rwF B n p ∧ biP B n p 149 = rwP B n p ∧ biW B n p 149 = rwM B n p ∧ biR B n p 149 = FP.dconst0 ∧ biO B n p 149 = [] ∧ biL B n p 149 = rwM B n p := by
  refine ⟨?_, ?_, ?_, ?_, ?_, ?_, ?_⟩ <;> simp [biA, biF, biP, biW, biR, biO, biL]
