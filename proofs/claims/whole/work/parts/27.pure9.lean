/-! STRINGS with a length, fixed numbers, ROWS: what is answered -/
def fxA (B : Nat → Nat) (n e p : Int) : Int := if n ≤ p + 1 then (if e = 0 then 0 else -7) else if 48 ≤ bA B n (p + 1) % 128 then -5 else nuA n e (p + 2 + wO (bA B n (p + 1))) 2
def fxF (B : Nat → Nat) (n p : Int) : Int := if n ≤ p + 1 then n else if 48 ≤ bA B n (p + 1) % 128 then p + 2 else lkF n (p + 2 + wO (bA B n (p + 1)))
def fxP (B : Nat → Nat) (n p : Int) : Int := if p + 1 < n ∧ 48 ≤ bA B n (p + 1) % 128 then p + 1 else p
def fxR (B : Nat → Nat) (n p : Int) : UInt64 := fxV (nmb B n (p + 2) (wO (bA B n (p + 1))) (lfO (bA B n (p + 1)))) (bA B n (p + 1))
def sbM (B : Nat → Nat) (n p w lf : Int) : Int := uu B n (p + 1) w lf w.toNat
def sbA (B : Nat → Nat) (n e p w lf : Int) : Int := nuA n e (p + 1 + w) (nuA n e (p + 1 + w + sbM B n p w lf) (if 400 < sbM B n p w lf then -2 else 6))
def sbF (B : Nat → Nat) (n p w lf : Int) : Int := if p + 1 + w ≤ n then lkF n (p + 1 + w + sbM B n p w lf) else n
theorem k_in {i k cnt w n : Int} (hw : w = 2 ∨ w = 4) (hk : 0 ≤ k) (hk2 : k < cnt) (h : i + cnt * w ≤ n) : i + k * w + w ≤ n ∧ 0 ≤ k * w := by
  rcases hw with e | e <;> subst e <;> omega
def rowN (B : Nat → Nat) (n i f k : Int) : Int := if rwR f then 0 else rwZ B n i f k
def rowD (B : Nat → Nat) (n i f k : Int) : UInt64 := if rwR f then rwD B n i f k else FP.dconst0
theorem infC_01 (B : Nat → Nat) (n i f : Int) : ∀ k, infC B n i f k = 0 ∨ infC B n i f k = 1
  | 0 => Or.inl rfl
  | k + 1 => by unfold infC; split <;> simp
theorem infC_mono {B : Nat → Nat} {n i f : Int} : ∀ (d k : Nat), infC B n i f k = 1 → infC B n i f (k + d) = 1
  | 0, k, h => h
  | d + 1, k, h => by
    show infC B n i f ((k + d) + 1) = 1
    unfold infC; rw [if_pos (Or.inl (infC_mono d k h))]
theorem infC_s {B : Nat → Nat} {n i f k : Int} (hk : 0 ≤ k) : infC B n i f (k + 1).toNat = if infC B n i f k.toNat = 1 ∨ eb (rwZ B n i f k) = 255 then 1 else 0 := by
  rw [show (k + 1).toNat = k.toNat + 1 by omega]
  show (if infC B n i f k.toNat = 1 ∨ eb (rwZ B n i f (k.toNat : Int)) = 255 then (1 : Int) else 0) = _
  rw [Int.toNat_of_nonneg hk]
theorem infC_hit {B : Nat → Nat} {n i f k cnt : Int} (hk : 0 ≤ k ∧ k < cnt) (h : eb (rwZ B n i f k) = 255) : infC B n i f cnt.toNat = 1 := by
  have h1 : infC B n i f (k + 1).toNat = 1 := by rw [infC_s hk.1, if_pos (Or.inr h)]
  have h2 := infC_mono (cnt.toNat - (k + 1).toNat) _ h1
  rwa [show (k + 1).toNat + (cnt.toNat - (k + 1).toNat) = cnt.toNat by omega] at h2
def frA (B : Nat → Nat) (n i f cnt : Int) : Int := if f % 128 = 48 ∧ infC B n i f cnt.toNat = 1 then -6 else 16
def rwM (B : Nat → Nat) (n p : Int) : Int := uu B n (p + 2) 2 (lfO (bA B n (p + 1))) 2
def rwQ (B : Nat → Nat) (n p : Int) : Int := p + 4 + rwM B n p * wO (bA B n (p + 1))
def rwA (B : Nat → Nat) (n e p : Int) : Int := if p + 1 < n ∧ 48 < bA B n (p + 1) % 128 then -5 else nuA n e (p + 4) (nuA n e (rwQ B n p) (if 60 < rwM B n p then -2 else frA B n (p + 4) (bA B n (p + 1)) (rwM B n p)))
def rwF (B : Nat → Nat) (n p : Int) : Int := if p + 1 < n ∧ 48 < bA B n (p + 1) % 128 then p + 2 else if p + 4 ≤ n then lkF n (rwQ B n p) else n
def rwP (B : Nat → Nat) (n p : Int) : Int := if p + 1 < n ∧ 48 < bA B n (p + 1) % 128 then p + 1 else p
theorem row_step {B : Nat → Nat} {n i f k : Int} {rn : Nat → Int} {rr : Nat → UInt64} {v : Int} {u : UInt64} (hk : 0 ≤ k) (h : ∀ j : Int, 0 ≤ j → j < k → rn j.toNat = rowN B n i f j ∧ rr j.toNat = rowD B n i f j) (hv : v = rowN B n i f k) (hu : u = rowD B n i f k) : ∀ j : Int, 0 ≤ j → j < k + 1 → uI rn k.toNat v j.toNat = rowN B n i f j ∧ uD rr k.toNat u j.toNat = rowD B n i f j := by
  intro j h1 h2
  unfold uI uD
  by_cases c : j = k
  · subst c; rw [if_pos rfl, if_pos rfl]; exact ⟨hv, hu⟩
  · rw [if_neg (by omega), if_neg (by omega)]; exact h j h1 (by omega)
theorem sb_400 {t : Nat → Nat} {len m : Int} {o : List Nat} (h : TX t len o) (hm : (o.length : Int) = m) : (if 400 < len then (-2 : Int) else 6) = if 400 < m then -2 else 6 := by
  have h4 := TX_400 h
  by_cases c : 400 < len
  · rw [if_pos c, if_pos (by omega)]
  · rw [if_neg c, if_neg (by omega)]
theorem sb_6 {t : Nat → Nat} {len m wh : Int} {o : List Nat} (h : TX t len o) (hm : (o.length : Int) = m) (h6 : (if 400 < len then (-2 : Int) else 6) = 6) : (if 400 < len then wh else len) = m ∧ TX t len o := by
  by_cases c : 400 < len
  · rw [if_pos c] at h6; exact absurd h6 (by decide)
  · rw [if_neg c]; exact ⟨((TX_400 h).2 c).trans hm, h⟩
theorem lk_0 {n e af : Int} (h0 : (if e = 0 then (0 : Int) else -7) ≠ 0) : (if e = 0 then af else n) = n := if_neg (fun c => h0 (by rw [if_pos c]))
theorem lfO_c (f : Int) : lfO f = 0 ∨ lfO f = 1 := by unfold lfO; split <;> simp
