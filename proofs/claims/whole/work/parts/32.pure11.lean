/-! BINARY TOKENS by their first byte c at p -/
def biA (B : Nat → Nat) (n e p c : Int) : Int :=
  if c = 132 then nuA n e (p + 1 + 4) 1 else if c = 133 then nuA n e (p + 1 + 4) 1 else if c = 134 then nuA n e (p + 1 + 2) 1 else if c = 135 then nuA n e (p + 1 + 2) 1 else if c = 136 then nuA n e (p + 1 + 1) 1
  else if c = 137 then fxA B n e p
  else if c = 138 then nuA n e (p + 1 + 4) (if eb (nmb B n (p + 1) 4 0) = 255 then -6 else 2) else if c = 139 then nuA n e (p + 1 + 4) (if eb (nmb B n (p + 1) 4 1) = 255 then -6 else 2)
  else if c = 141 then (if 1 < bA B n (p + 1) then -5 else nuA n e (p + 1 + 1) 13)
  else if c = 142 then sbA B n e p 1 0 else if c = 143 then sbA B n e p 2 0 else if c = 144 then sbA B n e p 2 1
  else if c = 145 then nuA n e (p + 1 + 1) 14 else if c = 146 then nuA n e (p + 1 + 1) 15
  else if c = 149 then rwA B n e p else -5
def biF (B : Nat → Nat) (n p c : Int) : Int :=
  if c = 132 then lkF n (p + 1 + 4) else if c = 133 then lkF n (p + 1 + 4) else if c = 134 then lkF n (p + 1 + 2) else if c = 135 then lkF n (p + 1 + 2) else if c = 136 then lkF n (p + 1 + 1)
  else if c = 137 then fxF B n p
  else if c = 138 then lkF n (p + 1 + 4) else if c = 139 then lkF n (p + 1 + 4)
  else if c = 141 then lkF n (p + 1 + 1)
  else if c = 142 then sbF B n p 1 0 else if c = 143 then sbF B n p 2 0 else if c = 144 then sbF B n p 2 1
  else if c = 145 then lkF n (p + 1 + 1) else if c = 146 then lkF n (p + 1 + 1)
  else if c = 149 then rwF B n p else p + 1
def biP (B : Nat → Nat) (n p c : Int) : Int :=
  if c = 137 then fxP B n p else if c = 141 then (if 1 < bA B n (p + 1) then p + 1 else p) else if c = 149 then rwP B n p else p
def biW (B : Nat → Nat) (n p c : Int) : Int :=
  if c = 132 then nmb B n (p + 1) 4 0 else if c = 133 then nmb B n (p + 1) 4 1 else if c = 134 then nmb B n (p + 1) 2 0 else if c = 135 then nmb B n (p + 1) 2 1 else if c = 136 then nmb B n (p + 1) 1 0
  else if c = 141 then bA B n (p + 1)
  else if c = 142 then sbM B n p 1 0 else if c = 143 then sbM B n p 2 0 else if c = 144 then sbM B n p 2 1
  else if c = 145 then bA B n (p + 1) else if c = 146 then bA B n (p + 1)
  else if c = 149 then rwM B n p else 0
def biR (B : Nat → Nat) (n p c : Int) : UInt64 :=
  if c = 137 then fxR B n p else if c = 138 then flV (nmb B n (p + 1) 4 0) else if c = 139 then flV (nmb B n (p + 1) 4 1) else FP.dconst0
def biO (B : Nat → Nat) (n p c : Int) : List Nat :=
  if c = 142 then wL B (p + 1 + 1) (sbM B n p 1 0).toNat else if c = 143 then wL B (p + 1 + 2) (sbM B n p 2 0).toNat else if c = 144 then wL B (p + 1 + 2) (sbM B n p 2 1).toNat else []
def biL (B : Nat → Nat) (n p c : Int) : Int := if c = 149 then rwM B n p else 0
theorem nuA_kd {n e q kd : Int} (h : 0 < nuA n e q kd) : nuA n e q kd = kd ∧ q ≤ n := by
  have hq := nuA_pos h; exact ⟨(nuA_y hq).symm, hq⟩
theorem fxA_2 {B : Nat → Nat} {n e p : Int} (h : 0 < fxA B n e p) : fxA B n e p = 2 := by
  unfold fxA at h ⊢
  split at h
  · split at h <;> omega
  · rw [if_neg (by assumption)]
    split at h
    · omega
    · rw [if_neg (by assumption)]; exact (nuA_kd h).1
theorem sbA_6 {B : Nat → Nat} {n e p w lf : Int} (h : 0 < sbA B n e p w lf) : sbA B n e p w lf = 6 := by
  unfold sbA at h ⊢
  have a := nuA_kd h
  rw [a.1] at h ⊢
  have b := nuA_kd h
  rw [b.1] at h ⊢
  split at h
  · omega
  · rw [if_neg (by assumption)]
theorem rwA_16 {B : Nat → Nat} {n e p : Int} (h : 0 < rwA B n e p) : rwA B n e p = 16 := by
  unfold rwA at h ⊢
  split at h
  · omega
  · rw [if_neg (by assumption)]
    have a := nuA_kd h
    rw [a.1] at h ⊢
    have b := nuA_kd h
    rw [b.1] at h ⊢
    split at h
    · omega
    · rw [if_neg (by assumption)]
      unfold frA at h ⊢
      split at h
      · omega
      · rw [if_neg (by assumption)]
