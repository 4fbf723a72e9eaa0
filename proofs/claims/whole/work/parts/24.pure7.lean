/-! BINARY TOKENS -/
theorem iI_tn (z : Int) : (iI z).toBitVec.toNat = (z % 4294967296).toNat := by
  show (Int32.ofInt z).toBitVec.toNat = _
  rw [Int32.toBitVec_ofInt, BitVec.toNat_ofInt]; rfl
theorem iI_nI (n : Nat) : iI (n : Int) = nI n := Int32.ofInt_eq_ofNat
theorem iandM (z : Int) {m : Int} (k : Nat) (hm : (iI m).toBitVec.toNat = 2 ^ k - 1) (hk : k ≤ 31) : iI z &&& iI m = iI (z % 2 ^ k) := by
  rw [pk_and (iI z) (m := iI m) k hm, iI_tn, ← iI_nI]
  congr 1
  have h1 : (2 : Int) ^ k ∣ 4294967296 := by
    have : (4294967296 : Int) = 2 ^ k * 2 ^ (32 - k) := by rw [← Int.pow_add, show k + (32 - k) = 32 by omega]; rfl
    exact ⟨_, this⟩
  have h2 : (0 : Int) ≤ z % 4294967296 := Int.emod_nonneg _ (by decide)
  rw [Int.natCast_emod, Int.toNat_of_nonneg h2]
  rw [show (((2 ^ k : Nat)) : Int) = 2 ^ k by norm_cast]
  exact Int.emod_emod_of_dvd z h1
theorem iand127 (z : Int) : iI z &&& iI 127 = iI (z % 128) := iandM z 7 (by decide) (by decide)
theorem iand31 (z : Int) : iI z &&& iI 31 = iI (z % 32) := iandM z 5 (by decide) (by decide)
theorem iand65535 (z : Int) : iI z &&& iI 65535 = iI (z % 65536) := iandM z 16 (by decide) (by decide)
theorem iand8388607 (z : Int) : iI z &&& iI 8388607 = iI (z % 8388608) := iandM z 23 (by decide) (by decide)
theorem iI_wrap (z k : Int) : iI (z + 4294967296 * k) = iI z := by
  apply Int32.toInt_inj.mp
  show (Int32.ofInt _).toInt = (Int32.ofInt _).toInt
  rw [Int32.toInt_ofInt, Int32.toInt_ofInt]
  exact Int.add_mul_bmod_self_left z 4294967296 k
theorem ushr23 (z : Int) : ((iI z).toUInt32 >>> ((iI 23).toUInt32 &&& Int32.toUInt32 31)).toInt32 = iI (z % 4294967296 / 8388608) := by
  apply Int32.toBitVec_inj.mp
  apply BitVec.eq_of_toNat_eq
  rw [pk_ushr (iI z) (iI 23) 23 (by decide), iI_tn, iI_tn]
  omega
theorem shl8 (v : Int) : iI v <<< ((iI 8) &&& 31) = iI (v * 256) := by
  apply Int32.toBitVec_inj.mp
  apply BitVec.eq_of_toNat_eq
  rw [pk_shl (iI v) _ 8 (by decide), iI_tn, iI_tn]
  omega
theorem or8 {v b : Int} (hv : 0 ≤ v ∧ v < 16777216) (hb : 0 ≤ b ∧ b < 256) : iI (v * 256) ||| iI b = iI (v * 256 + b) := by
  apply Int32.toBitVec_inj.mp
  apply BitVec.eq_of_toNat_eq
  rw [Int32.toBitVec_or, BitVec.toNat_or, iI_tn, iI_tn, iI_tn]
  obtain ⟨a, rfl⟩ := Int.eq_ofNat_of_zero_le hv.1
  obtain ⟨c, rfl⟩ := Int.eq_ofNat_of_zero_le hb.1
  have e1 : ((a : Int) * 256 % 4294967296).toNat = a * 256 := by omega
  have e2 : ((c : Int) % 4294967296).toNat = c := by omega
  have e3 : (((a : Int) * 256 + (c : Int)) % 4294967296).toNat = a * 256 + c := by omega
  rw [e1, e2, e3]
  have h := Nat.shiftLeft_add_eq_or_of_lt (i := 8) (b := c) (by omega) a
  rw [Nat.shiftLeft_eq] at h
  exact h.symm
/-- the bytes of a number, put together without its sign: k of its w bytes; lf: the lowest first (0: no) -/
def uu (B : Nat → Nat) (n i w lf : Int) : Nat → Int
  | 0 => 0
  | k + 1 => uu B n i w lf k * 256 + bA B n (if lf = 0 then i + (k : Int) else i + w - 1 - (k : Int))
theorem uu_s {B : Nat → Nat} {n i w lf q : Int} (h : 0 ≤ q) : uu B n i w lf (q + 1).toNat = uu B n i w lf q.toNat * 256 + bA B n (if lf = 0 then i + q else i + w - 1 - q) := by
  rw [show (q + 1).toNat = q.toNat + 1 by omega]
  show uu B n i w lf q.toNat * 256 + bA B n (if lf = 0 then i + (q.toNat : Int) else i + w - 1 - (q.toNat : Int)) = _
  rw [Int.toNat_of_nonneg h]
def sgn (w v : Int) : Int := if w = 1 then (if 128 ≤ v then v - 256 else v) else if w = 2 then (if 32768 ≤ v then v - 65536 else v) else (if 2147483648 ≤ v then v - 4294967296 else v)
def shv (w v : Int) : Int := if w = 1 then v * 16777216 else if w = 2 then v * 65536 else v
theorem shl_w {w v : Int} (hw : w = 1 ∨ w = 2 ∨ w = 4) : iI v <<< ((iI (32 - 8 * w)) &&& 31) = iI (shv w v) := by
  apply Int32.toBitVec_inj.mp
  apply BitVec.eq_of_toNat_eq
  rcases hw with e | e | e <;> subst e
  · rw [pk_shl (iI v) _ 24 (by decide), iI_tn, iI_tn]; unfold shv; simp only [if_true]; omega
  · rw [pk_shl (iI v) _ 16 (by decide), iI_tn, iI_tn]; unfold shv; rw [if_neg (by decide), if_pos rfl]; omega
  · rw [pk_shl (iI v) _ 0 (by decide), iI_tn, iI_tn]; unfold shv; rw [if_neg (by decide), if_neg (by decide)]; omega
abbrev uR (w v : Int) : Prop := (w = 1 ∧ 0 ≤ v ∧ v < 256) ∨ (w = 2 ∧ 0 ≤ v ∧ v < 65536) ∨ (w = 4 ∧ 0 ≤ v ∧ v < 4294967296)
theorem shr_w {w v : Int} (h : uR w v) : iI (shv w v) >>> ((iI (32 - 8 * w)) &&& 31) = iI (sgn w v) := by
  have hz : R32 (sgn w v) := by unfold sgn; rcases h with h | h | h <;> obtain ⟨rfl, h⟩ := h <;> simp <;> split <;> omega
  apply Int32.toInt_inj.mp
  rw [iI_toInt hz]
  rcases h with h | h | h <;> obtain ⟨rfl, h⟩ := h
  · rw [pk_shr _ _ 24 (by decide), Int.shiftRight_eq_div_pow]
    have e : (iI (shv 1 v)).toInt = if 128 ≤ v then v * 16777216 - 4294967296 else v * 16777216 := by
      unfold shv; simp only [if_true]
      split
      · rw [← iI_wrap (v * 16777216) (-1), iI_toInt ⟨by omega, by omega⟩]; omega
      · rw [iI_toInt ⟨by omega, by omega⟩]
    rw [e]; unfold sgn; simp only [if_true]; split <;> omega
  · rw [pk_shr _ _ 16 (by decide), Int.shiftRight_eq_div_pow]
    have e : (iI (shv 2 v)).toInt = if 32768 ≤ v then v * 65536 - 4294967296 else v * 65536 := by
      unfold shv; rw [if_neg (by decide), if_pos rfl]
      split
      · rw [← iI_wrap (v * 65536) (-1), iI_toInt ⟨by omega, by omega⟩]; omega
      · rw [iI_toInt ⟨by omega, by omega⟩]
    have s2 : sgn 2 v = if 32768 ≤ v then v - 65536 else v := by unfold sgn; rw [if_neg (by decide), if_pos rfl]
    rw [e, s2]; split <;> omega
  · rw [pk_shr _ _ 0 (by decide), Int.shiftRight_eq_div_pow]
    have e : (iI (shv 4 v)).toInt = if 2147483648 ≤ v then v - 4294967296 else v := by
      unfold shv; rw [if_neg (by decide), if_neg (by decide)]
      split
      · rw [← iI_wrap v (-1), iI_toInt ⟨by omega, by omega⟩]; omega
      · rw [iI_toInt ⟨by omega, by omega⟩]
    have s2 : sgn 4 v = if 2147483648 ≤ v then v - 4294967296 else v := by unfold sgn; rw [if_neg (by decide), if_neg (by decide)]
    rw [e, s2]; split <;> omega
theorem sgn_R {w v : Int} (h : uR w v) : R32 (sgn w v) := by unfold sgn; rcases h with h | h | h <;> obtain ⟨rfl, h⟩ := h <;> simp <;> split <;> omega
theorem sgn_mod {w v : Int} (h : uR w v) : (w = 1 → sgn w v % 256 = v) ∧ (w = 2 → sgn w v % 65536 = v) := by
  unfold sgn
  refine ⟨fun e => ?_, fun e => ?_⟩ <;> subst e
  · simp only [if_true]; split <;> omega
  · rw [if_neg (by decide), if_pos rfl]; split <;> omega
/-- a number of w bytes at i -/
def nmb (B : Nat → Nat) (n i w lf : Int) : Int := sgn w (uu B n i w lf w.toNat)
def wO (f : Int) : Int := if 32 ≤ f % 128 ∧ f % 128 < 48 then 2 else 4
theorem wO_c (f : Int) : wO f = 2 ∨ wO f = 4 := by unfold wO; split <;> simp
def lfO (f : Int) : Int := if 128 ≤ f then 1 else 0
def fxV (z f : Int) : UInt64 := scl (FP.i2d (iI z)) 4611686018427387904 (-(f % 32))
def eb (z : Int) : Int := z % 4294967296 / 8388608 % 256
def fb (z : Int) : Int := z % 8388608
def flS (z : Int) : UInt64 := if eb z = 0 then scl (FP.i2d (iI (fb z))) 4611686018427387904 (-149) else scl (FP.i2d (iI (8388608 + fb z))) 4611686018427387904 (eb z - 150)
def flV (z : Int) : UInt64 := if z < 0 then FP.dsub FP.dconst0 (flS z) else flS z
theorem eb_R (z : Int) : 0 ≤ eb z ∧ eb z ≤ 255 := by unfold eb; omega
theorem fb_R (z : Int) : 0 ≤ fb z ∧ fb z < 8388608 := by unfold fb; omega
theorem tw_NN {z : Int} (h : 0 ≤ z ∧ z ≤ 4294967296) {t : Int} (ht : -300 ≤ t ∧ t ≤ 300) : NN (scl (FP.i2d (iI z)) 4611686018427387904 t) := NN_scl2 (NN_i2d _) t
theorem flS_NN (z : Int) : NN (flS z) := by
  have h1 := eb_R z
  have h2 := fb_R z
  unfold flS; split
  · exact tw_NN (by omega) (by omega)
  · exact tw_NN (by omega) (by omega)
/-- answers of what wants bytes up to q -/
def nuA (n e q kd : Int) : Int := if q ≤ n then kd else if e = 0 then 0 else -7
def lkF (n q : Int) : Int := if q ≤ n then q else n
/-- the bytes from i up to j -/
def wL (B : Nat → Nat) (i : Int) : Nat → List Nat
  | 0 => []
  | k + 1 => wL B i k ++ [B (i + (k : Int)).toNat]
theorem wL_len (B : Nat → Nat) (i : Int) : ∀ k, (wL B i k).length = k
  | 0 => rfl
  | k + 1 => by rw [wL, List.length_append, wL_len B i k]; rfl
theorem wL_s {B : Nat → Nat} {i j : Int} (h : i ≤ j) : wL B i (j + 1 - i).toNat = wL B i (j - i).toNat ++ [B j.toNat] := by
  rw [show (j + 1 - i).toNat = (j - i).toNat + 1 by omega, wL, show i + ((j - i).toNat : Int) = j by omega]
theorem wL_at (B : Nat → Nat) (i : Int) : ∀ (k j : Nat), j < k → (wL B i k).getD j 0 = B (i + (j : Int)).toNat
  | 0, j, h => absurd h (Nat.not_lt_zero _)
  | k + 1, j, h => by
    rw [wL]
    by_cases c : j < k
    · rw [gD_app (by rw [wL_len]; exact c), wL_at B i k j c]
    · have e : j = k := by omega
      subst e
      simp [List.getD_eq_getElem?_getD, wL_len]
/-- a ROW's numbers -/
def rwZ (B : Nat → Nat) (n i f k : Int) : Int := nmb B n (i + k * wO f) (wO f) (lfO f)
def rwD (B : Nat → Nat) (n i f k : Int) : UInt64 := if f % 128 = 48 then flV (rwZ B n i f k) else fxV (rwZ B n i f k) f
def infC (B : Nat → Nat) (n i f : Int) : Nat → Int
  | 0 => 0
  | k + 1 => if infC B n i f k = 1 ∨ eb (rwZ B n i f (k : Int)) = 255 then 1 else 0
abbrev rwR (f : Int) : Prop := f % 128 = 48 ∨ ¬ f % 32 = 0
