/-! STRINGS: the bytes put out as a list; a result (k, x, o): k = 0 lacking, 1 whole with its end x and bytes o, 2 a byte at x that may not be there -/
theorem iand255 (z : Int) : iI z &&& iI 255 = iI (z % 256) := by
  have h := pk_and (iI z) (m := iI 255) 8 rfl
  rw [h]
  have e : (iI z).toBitVec.toNat = (z % 4294967296).toNat := by
    show (Int32.ofInt z).toBitVec.toNat = _
    rw [Int32.toBitVec_ofInt, BitVec.toNat_ofInt]; rfl
  rw [e]
  show Int32.ofNat _ = Int32.ofInt _
  rw [← Int32.ofInt_eq_ofNat]
  congr 1
  omega
theorem by8_mod (z : Int) : by8 (z % 256) = by8 z := by unfold by8; omega
theorem lI_shr {g : Int} (h : 0 ≤ g ∧ g < 9223372036854775808) {s : Nat} (hs : s < 32) : lI g >>> ((iI (s : Int)).toInt64 &&& 63) = lI (g / 2 ^ s) := by
  apply Int64.toInt_inj.mp
  have e1 : (iI (s : Int)).toInt64 &&& 63 = Int64.ofNat s := by
    have : ∀ k, k < 32 → (iI ((k : Nat) : Int)).toInt64 &&& 63 = Int64.ofNat k := by decide +kernel
    exact this s hs
  have e2 : ∀ k, k < 32 → ((Int64.ofNat k).toBitVec.smod 64).toNat = k := by decide +kernel
  rw [e1]
  have h2 : (lI g >>> Int64.ofNat s).toInt = (lI g).toInt >>> s := by
    show ((lI g).toBitVec.sshiftRight' ((Int64.ofNat s).toBitVec.smod 64)).toInt = _
    rw [BitVec.toInt_sshiftRight', e2 s hs]; rfl
  rw [h2, lI_toInt ⟨by omega, h.2⟩, Int.shiftRight_eq_div_pow]
  have h3 : 0 ≤ g / 2 ^ s := Int.ediv_nonneg h.1 (Int.le_of_lt (Int.pow_pos (by decide)))
  have h4 : g / 2 ^ s ≤ g := Int.ediv_le_self _ h.1
  have h5 : g / ((2 ^ s : Nat) : Int) = g / 2 ^ s := by norm_cast
  rw [h5, lI_toInt ⟨by omega, by omega⟩]
theorem gD_app {o p : List Nat} {j : Nat} (h : j < o.length) : (o ++ p).getD j 0 = o.getD j 0 := by
  simp [List.getD_eq_getElem?_getD, List.getElem?_append_left h]
def TX (t : Nat → Nat) (len : Int) (o : List Nat) : Prop := len = (if 401 < (o.length : Int) then 401 else (o.length : Int)) ∧ (∀ j, j < o.length → j < 401 → t j = o.getD j 0) ∧ ∀ j, t j < 256
theorem TX_0 {t : Nat → Nat} (h : ∀ j, t j < 256) : TX t 0 [] := ⟨rfl, fun j hj => absurd hj (Nat.not_lt_zero _), h⟩
theorem TX_R {t : Nat → Nat} {len : Int} {o : List Nat} (h : TX t len o) : 0 ≤ len ∧ len ≤ 401 := by
  have := h.1; split at this <;> omega
theorem TX_put {t : Nat → Nat} {len v : Int} {o : List Nat} (h : TX t len o) : TX (putT t len v) (putL len) (o ++ [by8 v]) := by
  obtain ⟨h1, h2, h3⟩ := h
  refine ⟨?_, ?_, putT_lt h3⟩
  · rw [List.length_append]; unfold putL
    simp only [List.length_cons, List.length_nil]
    split at h1 <;> (split <;> split <;> omega)
  · intro j hj hj2
    rw [List.length_append] at hj
    simp only [List.length_cons, List.length_nil] at hj
    unfold putT uB
    by_cases c : len < 401
    · rw [if_pos c]
      have e : len = (o.length : Int) := by split at h1 <;> omega
      by_cases c2 : j = o.length
      · rw [if_pos (by omega), c2]; simp
      · rw [if_neg (by omega), h2 j (by omega) hj2]
        rw [gD_app (by omega)]
    · rw [if_neg c]
      have : 401 ≤ o.length := by split at h1 <;> omega
      rw [h2 j (by omega) hj2, gD_app (by omega)]
def lw (B : Nat → Nat) (n i : Int) : Int := if bA B n i = 13 then (if bA B n (i + 1) = 10 then 2 else 1) else if bA B n i = 10 then 1 else 0
def oc (B : Nat → Nat) (n i : Int) : Int := if dg (bA B n i) < 8 then (if dg (bA B n (i + 1)) < 8 then (if dg (bA B n (i + 2)) < 8 then 3 else 2) else 1) else 0
def ov (B : Nat → Nat) (n i w : Int) : Int := if w = 1 then dg (bA B n i) else if w = 2 then dg (bA B n i) * 8 + dg (bA B n (i + 1)) else (dg (bA B n i) * 8 + dg (bA B n (i + 1))) * 8 + dg (bA B n (i + 2))
def es (c : Int) : Int := if c = 110 then 10 else if c = 114 then 13 else if c = 116 then 9 else if c = 98 then 8 else if c = 102 then 12 else c
def peW (B : Nat → Nat) (n i : Int) : Int := if 0 < lw B n i then lw B n i else if 0 < oc B n i then oc B n i else 1
def peO (B : Nat → Nat) (n i : Int) : List Nat := if 0 < lw B n i then [] else if 0 < oc B n i then [by8 (ov B n i (oc B n i))] else [by8 (es (bA B n i))]
def poW (B : Nat → Nat) (n i b : Int) : Int := if b = 92 then 1 + peW B n (i + 1) else if 0 < lw B n i then lw B n i else 1
def poO (B : Nat → Nat) (n i b : Int) : List Nat := if b = 92 then peO B n (i + 1) else if 0 < lw B n i then [10] else [by8 b]
theorem lw_R (B : Nat → Nat) (n i : Int) : 0 ≤ lw B n i ∧ lw B n i ≤ 2 := by unfold lw; (repeat' split) <;> omega
theorem oc_R (B : Nat → Nat) (n i : Int) : 0 ≤ oc B n i ∧ oc B n i ≤ 3 := by unfold oc; (repeat' split) <;> omega
theorem peW_R (B : Nat → Nat) (n i : Int) : 1 ≤ peW B n i ∧ peW B n i ≤ 3 := by
  have := lw_R B n i; have := oc_R B n i; unfold peW; (repeat' split) <;> omega
theorem poW_R (B : Nat → Nat) (n i b : Int) : 1 ≤ poW B n i b ∧ poW B n i b ≤ 4 := by
  have := lw_R B n i; have := peW_R B n (i + 1); unfold poW; (repeat' split) <;> omega
/-- a result -/
abbrev SR : Type := Int × Int × List Nat
def opn (b op : Int) : Int := if b = 40 then op + 1 else if b = 41 then op - 1 else op
def rdF (B : Nat → Nat) (n : Int) : Nat → Int → Int → List Nat → SR
  | 0, _, _, _ => (0, 0, [])
  | k + 1, i, op, o => if i < n then (if opn (bA B n i) op = 0 then (1, i + 1, o) else rdF B n k (i + poW B n i (bA B n i)) (opn (bA B n i) op) (o ++ poO B n i (bA B n i))) else (0, 0, [])
theorem rdF_en {B : Nat → Nat} {n : Int} : ∀ (k k' : Nat) (i op : Int) (o : List Nat), (n - i).toNat ≤ k → (n - i).toNat ≤ k' → rdF B n k i op o = rdF B n k' i op o
  | 0, 0, _, _, _, _, _ => rfl
  | 0, k' + 1, i, op, o, h, _ => by
    have : ¬ i < n := by omega
    simp [rdF, this]
  | k + 1, 0, i, op, o, _, h => by
    have : ¬ i < n := by omega
    simp [rdF, this]
  | k + 1, k' + 1, i, op, o, h, h' => by
    have hR := poW_R B n i (bA B n i)
    simp only [rdF]
    split
    · split
      · rfl
      · exact rdF_en k k' _ _ _ (by omega) (by omega)
    · rfl
def rdS (B : Nat → Nat) (n i op : Int) (o : List Nat) : SR := rdF B n (n - i).toNat i op o
theorem rdS_out {B : Nat → Nat} {n i op : Int} {o : List Nat} (h : n ≤ i) : rdS B n i op o = (0, 0, []) := by
  unfold rdS; rw [show (n - i).toNat = 0 by omega]; rfl
theorem rdS_s {B : Nat → Nat} {n i op : Int} {o : List Nat} (h : i < n) : rdS B n i op o = if opn (bA B n i) op = 0 then (1, i + 1, o) else rdS B n (i + poW B n i (bA B n i)) (opn (bA B n i) op) (o ++ poO B n i (bA B n i)) := by
  have hR := poW_R B n i (bA B n i)
  unfold rdS
  obtain ⟨k, hk⟩ : ∃ k, (n - i).toNat = k + 1 := ⟨(n - i).toNat - 1, by omega⟩
  rw [hk]
  simp only [rdF]
  rw [if_pos h]
  split
  · rfl
  · exact rdF_en _ _ _ _ _ (by omega) (by omega)
/-- two by two -/
def hxF (B : Nat → Nat) (n : Int) : Nat → Int → Int → List Nat → SR
  | 0, _, _, _ => (0, 0, [])
  | k + 1, i, hi, o => if isW (bA B n i) then hxF B n k (i + 1) hi o else if bA B n i = 62 then (1, i + 1, if hi = -1 then o else o ++ [by8 (hi * 16)]) else if 16 ≤ dg (bA B n i) then (2, i, []) else if hi = -1 then hxF B n k (i + 1) (dg (bA B n i)) o else hxF B n k (i + 1) (-1) (o ++ [by8 (hi * 16 + dg (bA B n i))])
def hxS (B : Nat → Nat) (n i hi : Int) (o : List Nat) : SR := hxF B n (n - i).toNat i hi o
theorem hxS_out {B : Nat → Nat} {n i hi : Int} {o : List Nat} (h : n ≤ i) : hxS B n i hi o = (0, 0, []) := by
  unfold hxS; rw [show (n - i).toNat = 0 by omega]; rfl
theorem hxS_s {B : Nat → Nat} {n i hi : Int} {o : List Nat} (h : i < n) : hxS B n i hi o = if isW (bA B n i) then hxS B n (i + 1) hi o else if bA B n i = 62 then (1, i + 1, if hi = -1 then o else o ++ [by8 (hi * 16)]) else if 16 ≤ dg (bA B n i) then (2, i, []) else if hi = -1 then hxS B n (i + 1) (dg (bA B n i)) o else hxS B n (i + 1) (-1) (o ++ [by8 (hi * 16 + dg (bA B n i))]) := by
  unfold hxS
  obtain ⟨k, hk⟩ : ∃ k, (n - i).toNat = k + 1 := ⟨(n - i).toNat - 1, by omega⟩
  rw [hk, show (n - (i + 1)).toNat = k by omega]; rfl
/-- five by five -/
def flF : Nat → Int → Int
  | 0, g => g
  | k + 1, g => flF k (g * 85 + 84)
def fl5 (g q : Int) : Int := flF (5 - q).toNat g
def hi1 (g : Int) (k : Nat) : Nat := by8 (g / 2 ^ (24 - 8 * k))
def hiL (g : Int) : Nat → List Nat
  | 0 => []
  | k + 1 => hiL g k ++ [hi1 g k]
def e5E (B : Nat → Nat) (n i g q : Int) (o : List Nat) : SR := if q = 1 ∨ (1 < q ∧ 4294967296 ≤ fl5 g q) then (2, i, []) else if bA B n (i + 1) = -1 then (0, 0, []) else if bA B n (i + 1) = 62 then (1, i + 2, o ++ hiL (fl5 g q) (q - 1).toNat) else (2, i + 1, [])
def e5F (B : Nat → Nat) (n : Int) : Nat → Int → Int → Int → List Nat → SR
  | 0, _, _, _, _ => (0, 0, [])
  | k + 1, i, g, q, o => if isW (bA B n i) then e5F B n k (i + 1) g q o else if bA B n i = 126 then e5E B n i g q o else if bA B n i = 122 ∧ q = 0 then e5F B n k (i + 1) g q (o ++ hiL 0 4) else if bA B n i < 33 ∨ 117 < bA B n i then (2, i, []) else if 4294967296 ≤ g * 85 + bA B n i - 33 then (2, i, []) else if q = 4 then e5F B n k (i + 1) 0 0 (o ++ hiL (g * 85 + bA B n i - 33) 4) else e5F B n k (i + 1) (g * 85 + bA B n i - 33) (q + 1) o
def e5S (B : Nat → Nat) (n i g q : Int) (o : List Nat) : SR := e5F B n (n - i).toNat i g q o
theorem e5S_out {B : Nat → Nat} {n i g q : Int} {o : List Nat} (h : n ≤ i) : e5S B n i g q o = (0, 0, []) := by
  unfold e5S; rw [show (n - i).toNat = 0 by omega]; rfl
theorem e5S_s {B : Nat → Nat} {n i g q : Int} {o : List Nat} (h : i < n) : e5S B n i g q o = if isW (bA B n i) then e5S B n (i + 1) g q o else if bA B n i = 126 then e5E B n i g q o else if bA B n i = 122 ∧ q = 0 then e5S B n (i + 1) g q (o ++ hiL 0 4) else if bA B n i < 33 ∨ 117 < bA B n i then (2, i, []) else if 4294967296 ≤ g * 85 + bA B n i - 33 then (2, i, []) else if q = 4 then e5S B n (i + 1) 0 0 (o ++ hiL (g * 85 + bA B n i - 33) 4) else e5S B n (i + 1) (g * 85 + bA B n i - 33) (q + 1) o := by
  unfold e5S
  obtain ⟨k, hk⟩ : ∃ k, (n - i).toNat = k + 1 := ⟨(n - i).toNat - 1, by omega⟩
  rw [hk, show (n - (i + 1)).toNat = k by omega]; rfl
/-- what the token is told of a result -/
def stA (e : Int) (r : SR) : Int := if r.1 = 0 then (if e = 0 then 0 else -7) else if r.1 = 1 then (if 400 < (r.2.2.length : Int) then -2 else 6) else -3
def stF (n : Int) (r : SR) : Int := if r.1 = 0 then n else if r.1 = 1 then r.2.1 else r.2.1 + 1
def stP (p : Int) (r : SR) : Int := if r.1 = 2 then r.2.1 else p
theorem oc_of {B : Nat → Nat} {n i q : Int} (h1 : 0 ≤ q ∧ q ≤ 3) (h2 : (1 ≤ q → dg (bA B n i) < 8) ∧ (2 ≤ q → dg (bA B n (i + 1)) < 8) ∧ (3 ≤ q → dg (bA B n (i + 2)) < 8)) (h3 : q < 3 → 8 ≤ dg (bA B n (i + q))) : q = oc B n i := by
  unfold oc
  rcases (show q = 0 ∨ q = 1 ∨ q = 2 ∨ q = 3 by omega) with e | e | e | e <;> subst e
  · have := h3 (by decide); simp only [Int.add_zero] at this; rw [if_neg (by omega)]
  · have := h3 (by decide); rw [if_pos (h2.1 (by decide)), if_neg (by omega)]
  · have := h3 (by decide); rw [if_pos (h2.1 (by decide)), if_pos (h2.2.1 (by decide)), if_neg (by omega)]
  · rw [if_pos (h2.1 (by decide)), if_pos (h2.2.1 (by decide)), if_pos (h2.2.2 (by decide))]
theorem mx1 {x : Int} (h : 1 ≤ x) : (if 1 < x then x else 1) = x := by split <;> omega
theorem TX_400 {t : Nat → Nat} {len : Int} {o : List Nat} (h : TX t len o) : (400 < len ↔ 400 < (o.length : Int)) ∧ (¬ 400 < len → len = o.length) := by
  have h1 := h.1; split at h1 <;> omega
theorem stA_1 {e x len : Int} {t : Nat → Nat} {o : List Nat} {r : SR} (hr : r = (1, x, o)) (h : TX t len o) : (if 400 < len then -2 else 6) = stA e r := by
  subst hr
  show _ = if 400 < (o.length : Int) then (-2 : Int) else 6
  by_cases c : 400 < len
  · rw [if_pos c, if_pos ((TX_400 h).1.mp c)]
  · rw [if_neg c, if_neg (fun q => c ((TX_400 h).1.mpr q))]
theorem stA_0 {e : Int} {r : SR} {x : Int} {o : List Nat} (hr : r = (0, x, o)) : (if e = 0 then 0 else -7) = stA e r := by subst hr; rfl
theorem stA_2 {e x : Int} {o : List Nat} {r : SR} (hr : r = (2, x, o)) : -3 = stA e r := by subst hr; rfl
theorem st6 {len wh : Int} {t : Nat → Nat} {o : List Nat} {r : SR} {x : Int} (hr : r = (1, x, o)) (h : TX t len o) (h6 : (if 400 < len then (-2 : Int) else 6) = 6) : (if 400 < len then wh else len) = (r.2.2.length : Int) ∧ TX t len r.2.2 := by
  subst hr
  by_cases c : 400 < len
  · rw [if_pos c] at h6; exact absurd h6 (by decide)
  · rw [if_neg c]; exact ⟨(TX_400 h).2 c, h⟩
