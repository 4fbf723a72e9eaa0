/-! what a WORD is: integer, number with a base, real; w its bytes, len how many -/
theorem de_C (w : Int → Int) (len base i : Int) : (i ≤ len ∧ i ≤ de w len base i ∧ de w len base i ≤ len) ∨ (len < i ∧ de w len base i = len) := by
  by_cases h : i ≤ len
  · have := de_R (w := w) (len := len) (base := base) _ i rfl h; omega
  · exact Or.inr ⟨by omega, de_out (by omega)⟩
theorem de_dg {w : Int → Int} {len base : Int} : ∀ (k : Nat) (i : Int), (len - i).toNat = k → de w len base i = len → ∀ j, i ≤ j → j < len → dg (w j) < base
  | 0, i, hk, h, j, h1, h2 => by omega
  | k + 1, i, hk, h, j, h1, h2 => by
    rw [de_s (by omega)] at h
    by_cases c : base ≤ dg (w i)
    · rw [if_pos c] at h; omega
    · rw [if_neg c] at h
      by_cases e : j = i
      · subst e; omega
      · exact de_dg k (i + 1) (by omega) h j (by omega) h2
theorem vo_le {w : Int → Int} {e : Int} : ∀ (k : Nat) (i v : Int), (e - i).toNat = k → (∀ j, i ≤ j → j < e → dg (w j) < 10) → 0 ≤ v → vo w 10 i e v ≤ v * 10 ^ k + (10 ^ k - 1)
  | 0, i, v, hk, h, hv => by rw [vo_out (by omega)]; simp
  | k + 1, i, v, hk, h, hv => by
    rw [vo_s (by omega)]
    have h1 := h i (Int.le_refl _) (by omega)
    have h2 := dg_R (w i)
    have h3 : sat (v * 10 + dg (w i)) ≤ v * 10 + 9 := by unfold sat; split <;> omega
    have h4 : 0 ≤ sat (v * 10 + dg (w i)) := (sat_R (by omega)).1
    have h5 := vo_le k (i + 1) _ (by omega) (fun j a b => h j (by omega) b) h4
    have h6 : (0 : Int) < 10 ^ k := Int.pow_pos (by decide)
    have h7 := Int.mul_le_mul_of_nonneg_right h3 (Int.le_of_lt h6)
    rw [Int.pow_succ]
    have e1 : (v * 10 + 9) * 10 ^ k = v * (10 ^ k * 10) + 9 * 10 ^ k := by rw [Int.add_mul, Int.mul_assoc, Int.mul_comm 10]
    omega
abbrev isx (w : Int → Int) (len i : Int) : Prop := (w i = 101 ∨ w i = 69) ∧ 1 ≤ len - bs w (i + 1) ∧ len - bs w (i + 1) ≤ 3 ∧ de w len 10 (bs w (i + 1)) = len
def exv (w : Int → Int) (len i : Int) : Int := if w (i + 1) = 45 then -(vo w 10 (bs w (i + 1)) len 0) else vo w 10 (bs w (i + 1)) len 0
theorem vo_999 {w : Int → Int} {len i : Int} (h1 : 1 ≤ len - i) (h3 : len - i ≤ 3) (hd : de w len 10 i = len) : vo w 10 i len 0 ≤ 999 := by
  have h := vo_le (w := w) (e := len) _ i 0 rfl (de_dg _ i rfl hd) (Int.le_refl _)
  have h4 : (len - i).toNat = 1 ∨ (len - i).toNat = 2 ∨ (len - i).toNat = 3 := by omega
  rcases h4 with e | e | e <;> rw [e] at h <;> simp at h <;> omega
theorem exv_R {w : Int → Int} {len i : Int} (h : isx w len i) : -999 ≤ exv w len i ∧ exv w len i ≤ 999 := by
  obtain ⟨-, h1, h2, h3⟩ := h
  have a := vo_999 h1 h2 h3
  have b := (vo_R (w := w) (base := 10) (e := len) (by decide) _ (bs w (i + 1)) 0 rfl ⟨Int.le_refl _, by decide⟩).1
  unfold exv; split <;> omega
/-- integers -/
def riS (w : Int → Int) (len : Int) : Int := vo w 10 (bs w 0) len 0
def riV (w : Int → Int) (len : Int) : Int := if w 0 = 45 then -(riS w len) else riS w len
abbrev riC (w : Int → Int) (len : Int) : Prop := bs w 0 ≠ len ∧ de w len 10 (bs w 0) = len ∧ -2147483648 ≤ riV w len ∧ riV w len ≤ 2147483647
def riA (w : Int → Int) (len : Int) : Int := if riC w len then 1 else 3
/-- a number with a base: mark, base, value -/
def rbM (w : Int → Int) (len : Int) : Int := de w len 10 0
def rbB (w : Int → Int) (len : Int) : Int := vo w 10 0 (rbM w len) 0
def rbS (w : Int → Int) (len : Int) : Int := vo w (rbB w len) (rbM w len + 1) len 0
abbrev rbC (w : Int → Int) (len : Int) : Prop := 1 ≤ rbM w len ∧ rbM w len ≤ 2 ∧ w (rbM w len) = 35 ∧ 2 ≤ rbB w len ∧ rbB w len ≤ 36 ∧ rbM w len + 1 ≠ len ∧ de w len (rbB w len) (rbM w len + 1) = len
def rbA (w : Int → Int) (len : Int) : Int := if rbC w len then (if 4294967296 ≤ rbS w len then -6 else 1) else 3
def rbV (w : Int → Int) (len : Int) : Int := if 2147483647 < rbS w len then rbS w len - 4294967296 else rbS w len
/-- reals -/
def rrP (w : Int → Int) (len : Int) : Int := de w len 10 (bs w 0)
def rrT (w : Int → Int) (len : Int) : Int := if w (rrP w len) = 46 then de w len 10 (rrP w len + 1) else rrP w len
def rrD (w : Int → Int) (len : Int) : Int := if w (rrP w len) = 46 then rrT w len - rrP w len - 1 else 0
abbrev rrC (w : Int → Int) (len : Int) : Prop := 0 < rrP w len - bs w 0 + rrD w len ∧ (rrT w len < len → isx w len (rrT w len))
def rrE (w : Int → Int) (len : Int) : Int := if rrT w len < len then exv w len (rrT w len) else 0
def rrS (w : Int → Int) (len : Int) : UInt64 := scl (dr w (bs w 0) (rrT w len) FP.dconst0) 4621819117588971520 (rrE w len - rrD w len)
/-- above the greatest double -/
abbrev big (v : UInt64) : Prop := ¬ Op.cmpValue (FP.dcmp v 9218868437227405311) CmpOp.l ≤ 0
def rrA (w : Int → Int) (len : Int) : Int := if rrC w len then (if big (rrS w len) then -6 else 2) else 3
def rrV (w : Int → Int) (len : Int) : UInt64 := if w 0 = 45 then FP.dsub FP.dconst0 (rrS w len) else rrS w len
/-- the WORD from i up to j -/
def wd (B : Nat → Nat) (i j : Int) : Int → Int := fun k => if 0 ≤ k ∧ k < j - i then (B (i + k).toNat : Int) else -1
theorem by8_B {B : Nat → Nat} {k : Nat} (h : ∀ j, B j < 256) : by8 (B k : Int) = B k := by
  have := h k; unfold by8; omega
theorem rt_step {tt B : Nat → Nat} {n i i0 ln : Int} (hB : ∀ j, B j < 256) (h0 : 0 ≤ i0 ∧ i0 ≤ i ∧ i < n) (hl : ln = if 401 < i - i0 then 401 else i - i0) (h4 : ∀ j : Int, 0 ≤ j → j < ln → tt j.toNat = B (i0 + j).toNat) : ∀ j : Int, 0 ≤ j → j < putL ln → putT tt ln (bA B n i) j.toNat = B (i0 + j).toNat := by
  intro j hj hj2
  unfold putL at hj2
  unfold putT
  by_cases c : ln < 401
  · rw [if_pos c] at hj2 ⊢
    have e1 : ln = i - i0 := by split at hl <;> omega
    rw [bA_in ⟨by omega, by omega⟩, by8_B hB]
    unfold uB
    by_cases c2 : j = ln
    · subst c2; rw [if_pos rfl]; congr 2; omega
    · rw [if_neg (by omega)]; exact h4 j hj (by omega)
  · rw [if_neg c] at hj2 ⊢
    exact h4 j hj hj2
theorem wd_of {t B : Nat → Nat} {len i0 q : Int} (hl : len = q - i0) (h : ∀ j : Int, 0 ≤ j → j < len → t j.toNat = B (i0 + j).toNat) : bA t len = wd B i0 q := by
  funext k
  unfold bA wd
  rw [← hl]
  by_cases c : 0 ≤ k ∧ k < len
  · rw [if_pos c, if_pos c, h k c.1 c.2]
  · rw [if_neg c, if_neg c]
/-- a WORD's answer without and with its numbers -/
def rtA (q n e i0 kd : Int) : Int := if q = n ∧ e = 0 then 0 else if 100 < q - i0 then -2 else kd
def wA (w : Int → Int) (len : Int) : Int := if riC w len then 1 else if rbA w len = 3 then rrA w len else rbA w len
theorem de_lt {w : Int → Int} {len base : Int} : ∀ (k : Nat) (i : Int), (len - i).toNat = k → ∀ j, i ≤ j → j < de w len base i → j < len → dg (w j) < base
  | 0, i, hk, j, h1, h2, h3 => by omega
  | k + 1, i, hk, j, h1, h2, h3 => by
    rw [de_s (by omega)] at h2
    by_cases c : base ≤ dg (w i)
    · rw [if_pos c] at h2; omega
    · rw [if_neg c] at h2
      by_cases e : j = i
      · subst e; omega
      · exact de_lt k (i + 1) (by omega) j (by omega) h2 h3
theorem vo_99 {w : Int → Int} {len : Int} (h0 : 0 ≤ len) (h : de w len 10 0 ≤ 2) : 0 ≤ vo w 10 0 (de w len 10 0) 0 ∧ vo w 10 0 (de w len 10 0) 0 ≤ 99 := by
  have hR := de_R (w := w) (len := len) (base := 10) _ 0 rfl h0
  have h1 := vo_le (w := w) (e := de w len 10 0) _ 0 0 rfl (fun j a b => de_lt _ 0 rfl j a b (by omega)) (Int.le_refl _)
  have h2 := (vo_R (w := w) (base := 10) (e := de w len 10 0) (by decide) _ 0 0 rfl ⟨Int.le_refl _, by decide⟩).1
  have h4 : (de w len 10 0 - 0).toNat = 0 ∨ (de w len 10 0 - 0).toNat = 1 ∨ (de w len 10 0 - 0).toNat = 2 := by omega
  rcases h4 with e | e | e <;> rw [e] at h1 <;> simp at h1 <;> omega
