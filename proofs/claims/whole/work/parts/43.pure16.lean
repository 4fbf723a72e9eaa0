/-! THE REFERENCE reads words by places of the bytes; here they are turned into the word's own -/
theorem wd_bA {B : Nat → Nat} {n i j x : Int} (h : 0 ≤ i ∧ i ≤ x ∧ x < j ∧ j ≤ n) : bA B n x = wd B i j (x - i) := by
  rw [bA_in ⟨by omega, by omega⟩]
  unfold wd
  rw [if_pos ⟨by omega, by omega⟩, show i + (x - i) = x by omega]
theorem wd_out {B : Nat → Nat} {i j k : Int} (h : j - i ≤ k) : wd B i j k = -1 := by
  unfold wd; rw [if_neg (by omega)]
theorem dg_C (c : Int) : (48 ≤ c ∧ c ≤ 57 ∧ dg c = c - 48) ∨ (¬ (48 ≤ c ∧ c ≤ 57) ∧ 10 ≤ dg c ∧ dg c ≤ 36) := by
  unfold dg; (repeat' split) <;> omega
/-- the reference's digit -/
def dg9 (c : Int) : Int := if dg c = 36 then 99 else dg c
theorem dg9_C (c : Int) : (dg c < 36 ∧ dg9 c = dg c) ∨ (dg c = 36 ∧ dg9 c = 99) := by
  have := dg_R c
  unfold dg9; split <;> omega
theorem de_dlt {w : Int → Int} {len base : Int} : ∀ (k : Nat) (i : Int), (len - i).toNat = k → ∀ j, i ≤ j → j < de w len base i → j < len → dg (w j) < base
  | 0, i, hk, j, h1, h2, h3 => by omega
  | k + 1, i, hk, j, h1, h2, h3 => by
    rw [de_s (by omega)] at h2
    by_cases c : base ≤ dg (w i)
    · rw [if_pos c] at h2; omega
    · rw [if_neg c] at h2
      by_cases e : j = i
      · subst e; omega
      · exact de_dlt k (i + 1) (by omega) j (by omega) h2 h3
theorem sat_id {v : Int} (h : v ≤ 4294967296) : sat v = v := if_neg (by omega)
theorem sat_hi {v : Int} (h : 4294967296 ≤ v) : sat v = 4294967296 := by unfold sat; split <;> omega
theorem vo_one (w : Int → Int) : vo w 10 0 1 0 = dg (w 0) := by
  have h := dg_R (w 0)
  rw [vo_s (by decide), vo_out (by decide), Int.zero_mul, Int.zero_add, sat_id (by omega)]
theorem vo_two (w : Int → Int) : vo w 10 0 2 0 = 10 * dg (w 0) + dg (w 1) := by
  have h := dg_R (w 0)
  have h1 := dg_R (w 1)
  rw [vo_s (by decide), vo_s (by decide), vo_out (by decide), Int.zero_mul, Int.zero_add, sat_id (v := dg (w 0)) (by omega), show (0 : Int) + 1 = 1 by decide, sat_id (by omega)]
  omega
/-- one step of the number's growth, as the reference makes it -/
theorem vo_go {w : Int → Int} {b i e v : Int} (h : i < e) (hb : 2 ≤ b) (hv : v ≤ 4294967296) : vo w b i e (sat v) = vo w b (i + 1) e (sat (v * b + dg (w i))) := by
  rw [vo_s h, sat_id hv]
theorem vo_stay {w : Int → Int} {b i e v : Int} (h : i < e) (hb : 2 ≤ b) (hv : 4294967296 ≤ v) : vo w b i e (sat v) = vo w b (i + 1) e (sat v) := by
  have h1 := dg_R (w i)
  rw [vo_s h, sat_hi hv, sat_hi (v := 4294967296 * b + dg (w i)) (by omega)]
theorem sat_C (v : Int) : (v ≤ 4294967296 ∧ sat v = v) ∨ (4294967296 < v ∧ sat v = 4294967296) := by
  unfold sat; split <;> omega
theorem riV_C (w : Int → Int) (len : Int) : (w 0 = 45 ∧ riV w len = -(riS w len)) ∨ (¬ w 0 = 45 ∧ riV w len = riS w len) := by
  unfold riV; split
  · exact Or.inl ⟨by assumption, rfl⟩
  · exact Or.inr ⟨by assumption, rfl⟩
theorem rbB_12 {w : Int → Int} {len : Int} : (rbM w len = 1 → rbB w len = dg (w 0)) ∧ (rbM w len = 2 → rbB w len = 10 * dg (w 0) + dg (w 1)) := by
  unfold rbB
  refine ⟨fun h => ?_, fun h => ?_⟩
  · rw [h]; exact vo_one w
  · rw [h]; exact vo_two w
theorem rrT_C (B : Nat → Nat) (f j : Int) : (wd B f j (rrP (wd B f j) (j - f)) = 46 ∧ rrP (wd B f j) (j - f) < j - f ∧ rrT (wd B f j) (j - f) = de (wd B f j) (j - f) 10 (rrP (wd B f j) (j - f) + 1) ∧ rrP (wd B f j) (j - f) + 1 ≤ rrT (wd B f j) (j - f) ∧ rrT (wd B f j) (j - f) ≤ j - f ∧ rrD (wd B f j) (j - f) = rrT (wd B f j) (j - f) - rrP (wd B f j) (j - f) - 1) ∨ (¬ wd B f j (rrP (wd B f j) (j - f)) = 46 ∧ rrT (wd B f j) (j - f) = rrP (wd B f j) (j - f) ∧ rrD (wd B f j) (j - f) = 0) := by
  by_cases h : wd B f j (rrP (wd B f j) (j - f)) = 46
  · have h1 : rrP (wd B f j) (j - f) < j - f := by
      by_cases h2 : rrP (wd B f j) (j - f) < j - f
      · exact h2
      · rw [wd_out (by omega)] at h; exact absurd h (by decide)
    have h3 : rrT (wd B f j) (j - f) = de (wd B f j) (j - f) 10 (rrP (wd B f j) (j - f) + 1) := by unfold rrT; rw [if_pos h]
    have h4 := de_R (w := wd B f j) (len := j - f) (base := 10) _ (rrP (wd B f j) (j - f) + 1) rfl (by omega)
    have h5 : rrD (wd B f j) (j - f) = rrT (wd B f j) (j - f) - rrP (wd B f j) (j - f) - 1 := by unfold rrD; rw [if_pos h]
    exact Or.inl ⟨h, h1, h3, by omega, by omega, h5⟩
  · exact Or.inr ⟨h, by unfold rrT; rw [if_neg h], by unfold rrD; rw [if_neg h]⟩
theorem exv_C (w : Int → Int) (len i : Int) : (w (i + 1) = 45 ∧ exv w len i = -(vo w 10 (bs w (i + 1)) len 0)) ∨ (¬ w (i + 1) = 45 ∧ exv w len i = vo w 10 (bs w (i + 1)) len 0) := by
  unfold exv; split
  · exact Or.inl ⟨by assumption, rfl⟩
  · exact Or.inr ⟨by assumption, rfl⟩
theorem bs_C (w : Int → Int) (i : Int) : ((w i = 43 ∨ w i = 45) ∧ bs w i = i + 1) ∨ (¬ (w i = 43 ∨ w i = 45) ∧ bs w i = i) := by
  unfold bs; split
  · exact Or.inl ⟨by assumption, rfl⟩
  · exact Or.inr ⟨by assumption, rfl⟩
def lsIs (ls c : Int) : Prop := (ls = 1 ∧ c = 45) ∨ (ls = 0 ∧ ¬ c = 45)
