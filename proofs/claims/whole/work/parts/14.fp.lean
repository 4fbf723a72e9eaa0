/-! doubles: what is not a NaN, and which products and quotients by powers of two are exact -/
/-- no NaN -/
def NN (v : UInt64) : Prop := FP.Core.dIsNaN v = false
theorem n64_of {v : UInt64} (h : NN v) : vf_n64 v := by
  have h1 := (FP.Core.ne_nan v).mp ((FP.Core.notNaN_iff v).mp h)
  unfold vf_n64
  rw [UInt64.le_iff_toNat_le, UInt64.toNat_and]
  have e1 : (0x7fffffffffffffff : UInt64).toNat = 2 ^ 63 - 1 := by decide
  have e2 : (0x7ff0000000000000 : UInt64).toNat = 9218868437227405312 := by decide
  rw [e1, e2, Nat.and_two_pow_sub_one_eq_mod]
  exact h1
theorem fin_10 : FP.Core.DFin 4621819117588971520 := (FP.Core.fin_bits _).mpr (by decide)
theorem nz_10 : ¬ FP.Core.DZero 4621819117588971520 := by rw [FP.Core.zero_bits2]; decide
theorem fin_2 : FP.Core.DFin 4611686018427387904 := (FP.Core.fin_bits _).mpr (by decide)
theorem nz_2 : ¬ FP.Core.DZero 4611686018427387904 := by rw [FP.Core.zero_bits2]; decide
theorem fin_0 : FP.Core.DFin FP.dconst0 := (FP.Core.fin_bits _).mpr (by decide)
theorem fin_1 : FP.Core.DFin FP.dconst1 := (FP.Core.fin_bits _).mpr (by decide)
theorem NN_0 : NN FP.dconst0 := fin_0.notNaN
theorem NN_1 : NN FP.dconst1 := fin_1.notNaN
theorem NN_mul {v : UInt64} (h : NN v) : vf_n64 (FP.dmul v 4621819117588971520) ∧ NN (FP.dmul v 4621819117588971520) := by
  have h1 : NN (FP.dmul v 4621819117588971520) := FP.Core.dmul_out' h fin_10 nz_10
  exact ⟨n64_of h1, h1⟩
theorem NN_div {v : UInt64} (h : NN v) : vf_n64 (FP.ddiv v 4621819117588971520) ∧ NN (FP.ddiv v 4621819117588971520) := by
  have h1 : NN (FP.ddiv v 4621819117588971520) := FP.Core.ddiv_out h fin_10 nz_10
  exact ⟨n64_of h1, h1⟩
theorem NN_mul2 {v : UInt64} (h : NN v) : vf_n64 (FP.dmul v 4611686018427387904) ∧ NN (FP.dmul v 4611686018427387904) := by
  have h1 : NN (FP.dmul v 4611686018427387904) := FP.Core.dmul_out' h fin_2 nz_2
  exact ⟨n64_of h1, h1⟩
theorem NN_div2 {v : UInt64} (h : NN v) : vf_n64 (FP.ddiv v 4611686018427387904) ∧ NN (FP.ddiv v 4611686018427387904) := by
  have h1 : NN (FP.ddiv v 4611686018427387904) := FP.Core.ddiv_out h fin_2 nz_2
  exact ⟨n64_of h1, h1⟩
theorem NN_add {v : UInt64} {d : Int} (h : NN v) (hd : 0 ≤ d ∧ d ≤ 1000) : vf_n64 (FP.dadd v (FP.i2d (iI d))) ∧ NN (FP.dadd v (FP.i2d (iI d))) := by
  have h1 : NN (FP.dadd v (FP.i2d (iI d))) := FP.Core.dadd_out h (FP.Core.i2d_fin _)
  exact ⟨n64_of h1, h1⟩
theorem NN_sub {v : UInt64} (h : NN v) : vf_n64 (FP.dsub FP.dconst0 v) := n64_of (FP.Core.dsub_out' fin_0 h)
theorem NN_mulN {v : UInt64} (h : NN v) : ∀ j, NN (mulN v 4621819117588971520 j)
  | 0 => h
  | j + 1 => (NN_mul (NN_mulN h j)).2
theorem NN_divN {v : UInt64} (h : NN v) : ∀ j, NN (divN v 4621819117588971520 j)
  | 0 => h
  | j + 1 => (NN_div (NN_divN h j)).2
theorem NN_scl {v : UInt64} (h : NN v) (t : Int) : NN (scl v 4621819117588971520 t) := NN_divN (NN_mulN h _) _
theorem NN_dr {w : Int → Int} {e : Int} : ∀ (k : Nat) (i : Int) (v : UInt64), (e - i).toNat = k → NN v → NN (dr w i e v)
  | 0, i, v, hk, h => by rw [dr_out (by omega)]; exact h
  | k + 1, i, v, hk, h => by
    rw [dr_s (by omega)]
    have hr := dg_R (w i)
    refine NN_dr (w := w) (e := e) k (i + 1) _ (by omega) ?_
    split
    · exact h
    · exact (NN_add (NN_mul h).2 (by omega)).2
/-- a whole number below 2^32 in size, and two -/
def two : UInt64 := 4611686018427387904
theorem NN_mulN2 {v : UInt64} (h : NN v) : ∀ j, NN (mulN v 4611686018427387904 j)
  | 0 => h
  | j + 1 => (NN_mul2 (NN_mulN2 h j)).2
theorem NN_divN2 {v : UInt64} (h : NN v) : ∀ j, NN (divN v 4611686018427387904 j)
  | 0 => h
  | j + 1 => (NN_div2 (NN_divN2 h j)).2
theorem NN_i2d (x : Int32) : NN (FP.i2d x) := (FP.Core.i2d_fin x).notNaN
theorem NN_scl2 {v : UInt64} (h : NN v) (t : Int) : NN (scl v 4611686018427387904 t) := NN_divN2 (NN_mulN2 h _) _
theorem tw_mul {z : Int} (h : -4294967296 ≤ z ∧ z ≤ 4294967296) : ∀ j, j ≤ 300 → vf_n64 (FP.dmul (mulN (FP.i2d (iI z)) two j) two) := fun j _ => (NN_mul2 (NN_mulN2 (NN_i2d _) j)).1
theorem tw_div {z : Int} (h : -4294967296 ≤ z ∧ z ≤ 4294967296) : ∀ j, j ≤ 300 → vf_n64 (FP.ddiv (divN (FP.i2d (iI z)) two j) two) := fun j _ => (NN_div2 (NN_divN2 (NN_i2d _) j)).1
