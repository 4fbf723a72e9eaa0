/-! WHAT IS READ, as functions of the bytes: B the bytes 0 .. 255, n how many, all indices Ints -/
def bA (B : Nat → Nat) (n i : Int) : Int := if 0 ≤ i ∧ i < n then (B i.toNat : Int) else -1
theorem bA_R {B : Nat → Nat} (n i : Int) (h : ∀ j, B j < 256) : -1 ≤ bA B n i ∧ bA B n i < 256 := by
  unfold bA
  by_cases c : 0 ≤ i ∧ i < n
  · rw [if_pos c]; have := h i.toNat; omega
  · rw [if_neg c]; omega
theorem bA_in {B : Nat → Nat} {n i : Int} (c : 0 ≤ i ∧ i < n) : bA B n i = (B i.toNat : Int) := if_pos c
theorem bA_out {B : Nat → Nat} {n i : Int} (c : ¬ (0 ≤ i ∧ i < n)) : bA B n i = -1 := if_neg c
theorem bA_C {B : Nat → Nat} (n i : Int) (h : ∀ j, B j < 256) : (0 ≤ i ∧ i < n ∧ 0 ≤ bA B n i ∧ bA B n i < 256) ∨ (¬ (0 ≤ i ∧ i < n) ∧ bA B n i = -1) := by
  by_cases c : 0 ≤ i ∧ i < n
  · rw [bA_in c]; have := h i.toNat; omega
  · rw [bA_out c]; exact Or.inr ⟨c, rfl⟩
abbrev isW (c : Int) : Prop := c = 0 ∨ c = 9 ∨ c = 10 ∨ c = 12 ∨ c = 13 ∨ c = 32
abbrev isO (c : Int) : Prop := c = 37 ∨ c = 40 ∨ c = 41 ∨ c = 47 ∨ c = 60 ∨ c = 62 ∨ c = 91 ∨ c = 93 ∨ c = 123 ∨ c = 125
abbrev isP (c : Int) : Prop := 159 < c ∨ (0 ≤ c ∧ c < 128 ∧ ¬ isW c ∧ ¬ isO c)
/-- the end of the WORD from i on -/
def weF (B : Nat → Nat) (n : Int) : Nat → Int → Int
  | 0, _ => n
  | k + 1, i => if isP (bA B n i) then weF B n k (i + 1) else i
def we (B : Nat → Nat) (n i : Int) : Int := weF B n (n - i).toNat i
theorem we_out {B : Nat → Nat} {n i : Int} (h : n ≤ i) : we B n i = n := by
  unfold we; rw [show (n - i).toNat = 0 by omega]; rfl
theorem we_s {B : Nat → Nat} {n i : Int} (h : i < n) : we B n i = if isP (bA B n i) then we B n (i + 1) else i := by
  unfold we
  obtain ⟨k, hk⟩ : ∃ k, (n - i).toNat = k + 1 := ⟨(n - i).toNat - 1, by omega⟩
  rw [hk, show (n - (i + 1)).toNat = k by omega]; rfl
theorem we_R {B : Nat → Nat} {n : Int} : ∀ (k : Nat) (i : Int), (n - i).toNat = k → i ≤ n → i ≤ we B n i ∧ we B n i ≤ n
  | 0, i, hk, h => by rw [we_out (by omega)]; omega
  | k + 1, i, hk, h => by
    rw [we_s (by omega)]
    split
    · have := we_R (B := B) (n := n) k (i + 1) (by omega) (by omega); omega
    · omega
/-- within a comment behind the byte b? c: before it -/
def cmt (c b : Int) : Int := if c = 0 then (if b = 37 then 1 else 0) else (if b = 10 ∨ b = 12 ∨ b = 13 then 0 else 1)
/-- the first byte from i on that is not WHITE; c: within a comment (0: no) -/
def fwF (B : Nat → Nat) (n : Int) : Nat → Int → Int → Int
  | 0, _, _ => n
  | k + 1, i, c => if cmt c (bA B n i) = 0 ∧ ¬ isW (bA B n i) then i else fwF B n k (i + 1) (cmt c (bA B n i))
def fw (B : Nat → Nat) (n i c : Int) : Int := fwF B n (n - i).toNat i c
theorem fw_out {B : Nat → Nat} {n i c : Int} (h : n ≤ i) : fw B n i c = n := by
  unfold fw; rw [show (n - i).toNat = 0 by omega]; rfl
theorem fw_s {B : Nat → Nat} {n i c : Int} (h : i < n) : fw B n i c = if cmt c (bA B n i) = 0 ∧ ¬ isW (bA B n i) then i else fw B n (i + 1) (cmt c (bA B n i)) := by
  unfold fw
  obtain ⟨k, hk⟩ : ∃ k, (n - i).toNat = k + 1 := ⟨(n - i).toNat - 1, by omega⟩
  rw [hk, show (n - (i + 1)).toNat = k by omega]; rfl
theorem fw_R {B : Nat → Nat} {n : Int} : ∀ (k : Nat) (i c : Int), (n - i).toNat = k → i ≤ n → i ≤ fw B n i c ∧ fw B n i c ≤ n
  | 0, i, c, hk, h => by rw [fw_out (by omega)]; omega
  | k + 1, i, c, hk, h => by
    rw [fw_s (by omega)]
    split
    · omega
    · have := fw_R (B := B) (n := n) k (i + 1) (cmt c (bA B n i)) (by omega) (by omega); omega
