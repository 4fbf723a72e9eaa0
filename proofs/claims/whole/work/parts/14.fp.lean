/-! doubles: what is not a NaN, and which products and quotients by powers of two are exact -/
/-- not below zero by its sign bit, and no NaN -/
def NN (v : UInt64) : Prop := v.toNat ≤ 9218868437227405312
theorem NN_0 : NN FP.dconst0 := by sorry
theorem NN_mul {v : UInt64} (h : NN v) : vf_n64 (FP.dmul v 4621819117588971520) ∧ NN (FP.dmul v 4621819117588971520) := by sorry
theorem NN_div {v : UInt64} (h : NN v) : vf_n64 (FP.ddiv v 4621819117588971520) ∧ NN (FP.ddiv v 4621819117588971520) := by sorry
theorem NN_add {v : UInt64} {d : Int} (h : NN v) (hd : 0 ≤ d ∧ d ≤ 1000) : vf_n64 (FP.dadd v (FP.i2d (iI d))) ∧ NN (FP.dadd v (FP.i2d (iI d))) := by sorry
theorem NN_sub {v : UInt64} (h : NN v) : vf_n64 (FP.dsub FP.dconst0 v) := by sorry
theorem NN_mulN {v : UInt64} (h : NN v) : ∀ j, NN (mulN v 4621819117588971520 j)
  | 0 => h
  | j + 1 => (NN_mul (NN_mulN h j)).2
theorem NN_divN {v : UInt64} (h : NN v) : ∀ j, NN (divN v 4621819117588971520 j)
  | 0 => h
  | j + 1 => (NN_div (NN_divN h j)).2
theorem NN_scl {v : UInt64} (h : NN v) (t : Int) : NN (scl v 4621819117588971520 t) := NN_divN (NN_mulN h _) _
theorem NN_dr {w : Int → Int} {e : Int} : ∀ (k : Nat) (i : Int) (v : UInt64), (e - i).toNat = k → NN v → NN (dr w i e v)
  | 0, i, v, hk, h => by rw [dr_out (by omega)]; exact h
  | k + 1, i, v, hk, h => by
    rw [dr_s (by omega)]
    have hr := dg_R (w i)
    refine NN_dr (w := w) (e := e) k (i + 1) _ (by omega) ?_
    split
    · exact h
    · exact (NN_add (NN_mul h).2 (by omega)).2
/-- a whole number below 2^32 in size, and two -/
def two : UInt64 := 4611686018427387904
theorem tw_mul {z : Int} (h : -4294967296 ≤ z ∧ z ≤ 4294967296) : ∀ j, j ≤ 300 → vf_n64 (FP.dmul (mulN (FP.i2d (iI z)) two j) two) := by sorry
theorem tw_div {z : Int} (h : -4294967296 ≤ z ∧ z ≤ 4294967296) : ∀ j, j ≤ 300 → vf_n64 (FP.ddiv (divN (FP.i2d (iI z)) two j) two) := by sorry
