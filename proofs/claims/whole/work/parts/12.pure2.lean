/-! tokens and words, as functions of an accessor w : Int → Int (a byte, or -1 outside) -/
def putT (t : Nat → Nat) (len v : Int) : Nat → Nat := if len < 401 then uB t len.toNat (by8 v) else t
def putL (len : Int) : Int := if len < 401 then len + 1 else len
theorem putL_R {len : Int} (h : 0 ≤ len ∧ len ≤ 401) : 0 ≤ putL len ∧ putL len ≤ 401 ∧ len ≤ putL len := by unfold putL; split <;> omega
theorem putT_lt {t : Nat → Nat} {len v : Int} (h : ∀ j, t j < 256) : ∀ j, putT t len v j < 256 := by
  intro j; unfold putT uB; split
  · by_cases c : j = len.toNat
    · simp [c, by8_lt]
    · simp [c, h j]
  · exact h j
def dg (c : Int) : Int := if 48 ≤ c ∧ c ≤ 57 then c - 48 else if 97 ≤ c ∧ c ≤ 122 then c - 87 else if 65 ≤ c ∧ c ≤ 90 then c - 55 else 36
theorem dg_R (c : Int) : 0 ≤ dg c ∧ dg c ≤ 36 := by unfold dg; (repeat' split) <;> omega
def mulN (s b : UInt64) : Nat → UInt64
  | 0 => s
  | k + 1 => FP.dmul (mulN s b k) b
def divN (s b : UInt64) : Nat → UInt64
  | 0 => s
  | k + 1 => FP.ddiv (divN s b k) b
def scl (s b : UInt64) (t : Int) : UInt64 := divN (mulN s b t.toNat) b (-t).toNat
/-- the place behind a sign -/
def bs (w : Int → Int) (i : Int) : Int := if w i = 43 ∨ w i = 45 then i + 1 else i
theorem bs_R (w : Int → Int) (i : Int) : i ≤ bs w i ∧ bs w i ≤ i + 1 := by unfold bs; split <;> omega
/-- the first place from i on whose byte is no digit of the base; len if none -/
def deF (w : Int → Int) (len base : Int) : Nat → Int → Int
  | 0, _ => len
  | k + 1, i => if base ≤ dg (w i) then i else deF w len base k (i + 1)
def de (w : Int → Int) (len base i : Int) : Int := deF w len base (len - i).toNat i
theorem de_out {w : Int → Int} {len base i : Int} (h : len ≤ i) : de w len base i = len := by
  unfold de; rw [show (len - i).toNat = 0 by omega]; rfl
theorem de_s {w : Int → Int} {len base i : Int} (h : i < len) : de w len base i = if base ≤ dg (w i) then i else de w len base (i + 1) := by
  unfold de
  obtain ⟨k, hk⟩ : ∃ k, (len - i).toNat = k + 1 := ⟨(len - i).toNat - 1, by omega⟩
  rw [hk, show (len - (i + 1)).toNat = k by omega]; rfl
theorem de_R {w : Int → Int} {len base : Int} : ∀ (k : Nat) (i : Int), (len - i).toNat = k → i ≤ len → i ≤ de w len base i ∧ de w len base i ≤ len
  | 0, i, hk, h => by rw [de_out (by omega)]; omega
  | k + 1, i, hk, h => by
    rw [de_s (by omega)]
    split
    · omega
    · have := de_R (w := w) (len := len) (base := base) k (i + 1) (by omega) (by omega); omega
/-- the number of the digits from i up to e, stopped at 4294967296 -/
def sat (a : Int) : Int := if 4294967296 < a then 4294967296 else a
def voF (w : Int → Int) (base : Int) : Nat → Int → Int → Int
  | 0, _, v => v
  | k + 1, i, v => voF w base k (i + 1) (sat (v * base + dg (w i)))
def vo (w : Int → Int) (base i e v : Int) : Int := voF w base (e - i).toNat i v
theorem vo_out {w : Int → Int} {base i e v : Int} (h : e ≤ i) : vo w base i e v = v := by
  unfold vo; rw [show (e - i).toNat = 0 by omega]; rfl
theorem vo_s {w : Int → Int} {base i e v : Int} (h : i < e) : vo w base i e v = vo w base (i + 1) e (sat (v * base + dg (w i))) := by
  unfold vo
  obtain ⟨k, hk⟩ : ∃ k, (e - i).toNat = k + 1 := ⟨(e - i).toNat - 1, by omega⟩
  rw [hk, show (e - (i + 1)).toNat = k by omega]; rfl
theorem sat_R {a : Int} (h : 0 ≤ a) : 0 ≤ sat a ∧ sat a ≤ 4294967296 := by unfold sat; split <;> omega
theorem vo_R {w : Int → Int} {base e : Int} (hb : 0 ≤ base) : ∀ (k : Nat) (i v : Int), (e - i).toNat = k → (0 ≤ v ∧ v ≤ 4294967296) → 0 ≤ vo w base i e v ∧ vo w base i e v ≤ 4294967296
  | 0, i, v, hk, h => by rw [vo_out (by omega)]; omega
  | k + 1, i, v, hk, h => by
    rw [vo_s (by omega)]
    have h1 : 0 ≤ v * base := Int.mul_nonneg h.1 hb
    have h2 := dg_R (w i)
    exact vo_R hb k (i + 1) _ (by omega) (sat_R (by omega))
/-- the digits from i up to e as a double, points passed -/
def drF (w : Int → Int) : Nat → Int → UInt64 → UInt64
  | 0, _, v => v
  | k + 1, i, v => drF w k (i + 1) (if w i = 46 then v else FP.dadd (FP.dmul v 4621819117588971520) (FP.i2d (iI (dg (w i)))))
def dr (w : Int → Int) (i e : Int) (v : UInt64) : UInt64 := drF w (e - i).toNat i v
theorem dr_out {w : Int → Int} {i e : Int} {v : UInt64} (h : e ≤ i) : dr w i e v = v := by
  unfold dr; rw [show (e - i).toNat = 0 by omega]; rfl
theorem dr_s {w : Int → Int} {i e : Int} {v : UInt64} (h : i < e) : dr w i e v = dr w (i + 1) e (if w i = 46 then v else FP.dadd (FP.dmul v 4621819117588971520) (FP.i2d (iI (dg (w i))))) := by
  unfold dr
  obtain ⟨k, hk⟩ : ∃ k, (e - i).toNat = k + 1 := ⟨(e - i).toNat - 1, by omega⟩
  rw [hk, show (e - (i + 1)).toNat = k by omega]; rfl
