/-! the reference's BINARY TOKENS: bits, numbers, what is answered -/
theorem nb_nar {x : Int} (h : x = 0 ∨ x = 1) : narrow .boolean (.int (iI x)) = .int (iI x) := by
  rcases h with e | e <;> subst e <;> rfl
theorem nb_fit {x : Int} (h : x = 0 ∨ x = 1) : fits .boolean (.int (iI x)) = true := by
  rcases h with e | e <;> subst e <;> rfl
theorem lI_shr23 {z : Int} (h : R64 z) : lI z >>> ((iI 23).toInt64 &&& 63) = lI (z / 8388608) := by
  apply Int64.toInt_inj.mp
  have e1 : (iI 23).toInt64 &&& 63 = Int64.ofNat 23 := by decide +kernel
  have e2 : ((Int64.ofNat 23).toBitVec.smod 64).toNat = 23 := by decide +kernel
  rw [e1]
  have h2 : (lI z >>> Int64.ofNat 23).toInt = (lI z).toInt >>> 23 := by
    show ((lI z).toBitVec.sshiftRight' ((Int64.ofNat 23).toBitVec.smod 64)).toInt = _
    rw [BitVec.toInt_sshiftRight', e2]; rfl
  rw [h2, lI_toInt h, Int.shiftRight_eq_div_pow, show ((2 ^ 23 : Nat) : Int) = 8388608 by decide, lI_toInt ⟨by omega, by omega⟩]
theorem eb_eq (z : Int) : z / 8388608 % 256 = eb z := by unfold eb; omega
theorem lfO_C (f : Int) : (128 ≤ f ∧ lfO f = 1) ∨ (f < 128 ∧ lfO f = 0) := by
  unfold lfO; split <;> omega
theorem wO_C (f : Int) : (32 ≤ f % 128 ∧ f % 128 < 48 ∧ wO f = 2) ∨ (¬ (32 ≤ f % 128 ∧ f % 128 < 48) ∧ wO f = 4) := by
  unfold wO; split
  · exact Or.inl ⟨by omega, by omega, rfl⟩
  · exact Or.inr ⟨by omega, rfl⟩
theorem uu_1 (B : Nat → Nat) (n i lf : Int) : uu B n i 1 lf 1 = bA B n i := by
  simp only [uu]
  rw [Int.zero_mul, Int.zero_add]
  split
  · rw [show i + ((0 : Nat) : Int) = i by omega]
  · rw [show i + 1 - 1 - ((0 : Nat) : Int) = i by omega]
theorem uu_20 (B : Nat → Nat) (n i : Int) : uu B n i 2 0 2 = bA B n i * 256 + bA B n (i + 1) := by
  simp only [uu, if_true]
  rw [Int.zero_mul, Int.zero_add, show i + ((0 : Nat) : Int) = i by omega, show i + ((1 : Nat) : Int) = i + 1 by omega]
theorem uu_21 (B : Nat → Nat) (n i : Int) : uu B n i 2 1 2 = bA B n (i + 1) * 256 + bA B n i := by
  simp only [uu]
  rw [if_neg (by decide), if_neg (by decide), Int.zero_mul, Int.zero_add, show i + 2 - 1 - ((0 : Nat) : Int) = i + 1 by omega, show i + 2 - 1 - ((1 : Nat) : Int) = i by omega]
theorem sbM_1 (B : Nat → Nat) (n p lf : Int) : sbM B n p 1 lf = bA B n (p + 1) := uu_1 B n (p + 1) lf
theorem sbM_20 (B : Nat → Nat) (n p : Int) : sbM B n p 2 0 = 256 * bA B n (p + 1) + bA B n (p + 2) := by
  have h := uu_20 B n (p + 1)
  rw [show p + 1 + 1 = p + 2 by omega] at h
  show uu B n (p + 1) 2 0 2 = _
  omega
theorem sbM_21 (B : Nat → Nat) (n p : Int) : sbM B n p 2 1 = bA B n (p + 1) + 256 * bA B n (p + 2) := by
  have h := uu_21 B n (p + 1)
  rw [show p + 1 + 1 = p + 2 by omega] at h
  show uu B n (p + 1) 2 1 2 = _
  omega
theorem rwM_0 {B : Nat → Nat} {n p : Int} (h : bA B n (p + 1) < 128) : rwM B n p = 256 * bA B n (p + 2) + bA B n (p + 3) := by
  have h1 := uu_20 B n (p + 2)
  rw [show p + 2 + 1 = p + 3 by omega] at h1
  unfold rwM lfO
  rw [if_neg (by omega)]; omega
theorem rwM_1 {B : Nat → Nat} {n p : Int} (h : 128 ≤ bA B n (p + 1)) : rwM B n p = bA B n (p + 2) + 256 * bA B n (p + 3) := by
  have h1 := uu_21 B n (p + 2)
  rw [show p + 2 + 1 = p + 3 by omega] at h1
  unfold rwM lfO
  rw [if_pos h]; omega
theorem hf_end {w k h : Int} (hw : w = 1 ∨ w = 2 ∨ w = 4) (hk : 1 ≤ k ∧ k ≤ 8 * w) (h2 : 8 * w ≤ k) (g : h = 2 ^ (k - 1).toNat) : (w = 1 ∧ h = 128) ∨ (w = 2 ∧ h = 32768) ∨ (w = 4 ∧ h = 2147483648) := by
  rcases hw with e | e | e <;> subst e
  · rw [show (k - 1).toNat = 7 by omega] at g; exact Or.inl ⟨rfl, g⟩
  · rw [show (k - 1).toNat = 15 by omega] at g; exact Or.inr (Or.inl ⟨rfl, g⟩)
  · rw [show (k - 1).toNat = 31 by omega] at g; exact Or.inr (Or.inr ⟨rfl, g⟩)
theorem hf_step {k h : Int} (hk : 1 ≤ k) (g : h = 2 ^ (k - 1).toNat) : 2 * h = 2 ^ (k + 1 - 1).toNat := by
  rw [g, show (k + 1 - 1).toNat = (k - 1).toNat + 1 by omega, Int.pow_succ, Int.mul_comm]
theorem wL_put {B : Nat → Nat} {n i q : Int} (hB : ∀ j, B j < 256) (h : 0 ≤ q ∧ 0 ≤ i ∧ i + q < n) : wL B i q.toNat ++ [by8 (bA B n (i + q))] = wL B i (q + 1).toNat := by
  rw [show (q + 1).toNat = q.toNat + 1 by omega, wL, bA_in ⟨by omega, h.2.2⟩, by8_B hB, Int.toNat_of_nonneg h.1]
theorem ls_out {B : Nat → Nat} {n p : Int} (e : Int) (h : n ≤ p + 1) : lsA B n e p = (if e = 0 then 0 else -7) ∧ lsF B n p = n ∧ lsP B n p = p := by
  have h1 : bA B n (p + 1) = -1 := bA_out (by omega)
  unfold lsA lsF lsP
  rw [if_pos h1, if_pos h1, if_pos h1]; exact ⟨rfl, rfl, rfl⟩
theorem ls_60 {B : Nat → Nat} {n p : Int} (e : Int) (h : bA B n (p + 1) = 60) : lsA B n e p = 11 ∧ lsF B n p = p + 2 ∧ lsP B n p = p := by
  have h1 : ¬ bA B n (p + 1) = -1 := by omega
  unfold lsA lsF lsP
  rw [if_neg h1, if_neg h1, if_neg h1, if_pos h, if_pos h, if_pos h]; exact ⟨rfl, rfl, rfl⟩
theorem ls_s {B : Nat → Nat} {n p : Int} {r : SR} (e : Int) (h : ¬ bA B n (p + 1) = 60) (h2 : ¬ bA B n (p + 1) = -1) (hr : lsR B n p = r) : lsA B n e p = stA e r ∧ lsF B n p = stF n r ∧ lsP B n p = stP p r ∧ lsW B n p = (r.2.2.length : Int) ∧ lsO B n p = r.2.2 := by
  subst hr
  unfold lsA lsF lsP lsW lsO
  rw [if_neg h2, if_neg h2, if_neg h2, if_neg h, if_neg h, if_neg h, if_neg h, if_neg h]; exact ⟨rfl, rfl, rfl, rfl, rfl⟩
theorem ls_126 {B : Nat → Nat} {n p : Int} (h : bA B n (p + 1) = 126) : lsR B n p = e5S B n (p + 2) 0 0 [] := if_pos h
theorem ls_hx {B : Nat → Nat} {n p : Int} (h : ¬ bA B n (p + 1) = 126) : lsR B n p = hxS B n (p + 1) (-1) [] := if_neg h
theorem stA_6' {e : Int} {r : SR} (h : stA e r = 6) : True := trivial
theorem rwR_C {f : Int} (hf : f % 128 ≤ 48) : (rwR f ↔ (¬ f % 128 = 0 ∧ ¬ f % 128 = 32)) := by
  constructor
  · intro h; rcases h with h | h <;> omega
  · intro h
    by_cases c : f % 128 = 48
    · exact Or.inl c
    · exact Or.inr (by omega)
theorem fx_lk {B : Nat → Nat} {n p : Int} (e : Int) (h : n ≤ p + 1) : fxA B n e p = (if e = 0 then 0 else -7) ∧ fxF B n p = n ∧ fxP B n p = p := by
  have h1 : ¬ (p + 1 < n ∧ 48 ≤ bA B n (p + 1) % 128) := by omega
  unfold fxA fxF fxP
  rw [if_pos h, if_pos h, if_neg h1]; exact ⟨rfl, rfl, rfl⟩
theorem fx_wr {B : Nat → Nat} {n p : Int} (e : Int) (h : p + 1 < n) (h2 : 48 ≤ bA B n (p + 1) % 128) : fxA B n e p = -5 ∧ fxF B n p = p + 2 ∧ fxP B n p = p + 1 := by
  have h1 : ¬ n ≤ p + 1 := by omega
  unfold fxA fxF fxP
  rw [if_neg h1, if_neg h1, if_pos h2, if_pos h2, if_pos ⟨h, h2⟩]; exact ⟨rfl, rfl, rfl⟩
theorem fx_ok {B : Nat → Nat} {n p w : Int} (e : Int) (h : p + 1 < n) (h2 : ¬ 48 ≤ bA B n (p + 1) % 128) (hw : w = wO (bA B n (p + 1))) : fxA B n e p = nuA n e (p + 2 + w) 2 ∧ fxF B n p = lkF n (p + 2 + w) ∧ fxP B n p = p := by
  have h1 : ¬ n ≤ p + 1 := by omega
  subst hw
  unfold fxA fxF fxP
  rw [if_neg h1, if_neg h1, if_neg h2, if_neg h2, if_neg (fun q => h2 q.2)]; exact ⟨rfl, rfl, rfl⟩
theorem sb_n {B : Nat → Nat} {n p w lf : Int} (e : Int) (h : ¬ p + 1 + w ≤ n) : sbA B n e p w lf = (if e = 0 then 0 else -7) ∧ sbF B n p w lf = n := by
  unfold sbA sbF
  rw [if_neg h]; exact ⟨(nuA_n h).symm, rfl⟩
theorem sb_y {B : Nat → Nat} {n p w lf m : Int} (e : Int) (h : p + 1 + w ≤ n) (hm : m = sbM B n p w lf) : sbA B n e p w lf = nuA n e (p + 1 + w + m) (if 400 < m then -2 else 6) ∧ sbF B n p w lf = lkF n (p + 1 + w + m) := by
  subst hm
  unfold sbA sbF
  rw [if_pos h]; exact ⟨(nuA_y h).symm, rfl⟩
theorem rw_lk {B : Nat → Nat} {n p : Int} (e : Int) (h : n < p + 4) (h2 : ¬ (p + 1 < n ∧ 48 < bA B n (p + 1) % 128)) : rwA B n e p = (if e = 0 then 0 else -7) ∧ rwF B n p = n ∧ rwP B n p = p := by
  have h1 : ¬ p + 4 ≤ n := by omega
  unfold rwA rwF rwP
  rw [if_neg h2, if_neg h2, if_neg h2, if_neg h1]; exact ⟨(nuA_n h1).symm, rfl, rfl⟩
theorem rw_wr {B : Nat → Nat} {n p : Int} (e : Int) (h2 : p + 1 < n ∧ 48 < bA B n (p + 1) % 128) : rwA B n e p = -5 ∧ rwF B n p = p + 2 ∧ rwP B n p = p + 1 := by
  unfold rwA rwF rwP
  rw [if_pos h2, if_pos h2, if_pos h2]; exact ⟨rfl, rfl, rfl⟩
theorem rw_s {B : Nat → Nat} {n p m w : Int} (e : Int) (h : p + 4 ≤ n) (h2 : ¬ (p + 1 < n ∧ 48 < bA B n (p + 1) % 128)) (hm : m = rwM B n p) (hw : w = wO (bA B n (p + 1))) : rwA B n e p = nuA n e (p + 4 + m * w) (if 60 < m then -2 else frA B n (p + 4) (bA B n (p + 1)) m) ∧ rwF B n p = lkF n (p + 4 + m * w) ∧ rwP B n p = p := by
  subst hm; subst hw
  unfold rwA rwF rwP
  rw [if_neg h2, if_neg h2, if_neg h2, if_pos h]; exact ⟨(nuA_y h).symm, rfl, rfl⟩
theorem lk_e {n e x : Int} (h : (if e = 0 then (0 : Int) else -7) ≠ 0) : (if e = 0 then x else n) = n := if_neg (fun q => h (by rw [if_pos q]))
