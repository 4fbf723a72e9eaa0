/-! doubles exactly: a finite one as so many units of 2^-1074; products and quotients by powers of two -/
def U74 : Nat := 2 ^ 1074
theorem U74_eq : U74 = 2 ^ 1074 := rfl
def VX (x : UInt64) (s : Bool) (m : Nat) : Prop := ∃ c q, FP.Core.val64 x = .fin s c q ∧ c * 2 ^ (q + 1074).toNat = m
theorem qmax_64 : FP.Core.b64.qmax = 971 := by decide
theorem ac_1 (C P U : Nat) : C * P * (2 * U) = C * (P * 2) * U := by ac_rfl
theorem VX_q {x : UInt64} {s : Bool} {c : Nat} {q : Int} (h : FP.Core.val64 x = .fin s c q) : -1074 ≤ q ∧ q ≤ 971 := by
  have h1 := FP.Core.val64_fits x
  rw [h] at h1
  obtain ⟨-, b, d, -⟩ := h1
  rw [FP.Core.qmin_b64] at b
  rw [qmax_64] at d
  exact ⟨b, d⟩
theorem VX_cross {c c' K : Nat} {q q' : Int} (h1 : -(K : Int) ≤ q) (h2 : -(K : Int) ≤ q') (h : c * 2 ^ (q + K).toNat = c' * 2 ^ (q' + K).toNat) : c * 2 ^ (q - q').toNat = c' * 2 ^ (q' - q).toNat := by
  refine Nat.eq_of_mul_eq_mul_right (Nat.two_pow_pos (min q q' + K).toNat) ?_
  rw [Nat.mul_assoc, Nat.mul_assoc, ← Nat.pow_add, ← Nat.pow_add, show (q - q').toNat + (min q q' + K).toNat = (q + K).toNat by omega, show (q' - q).toNat + (min q q' + K).toNat = (q' + K).toNat by omega]
  exact h
theorem VX_round (s : Bool) (C E : Nat) (hC : C < 2 ^ 53) (hE : E ≤ 2045) : ∃ c q, FP.Core.roundRatio FP.Core.b64 s C 1 ((E : Int) - 1074) = .fin s c q ∧ c * 2 ^ (q + 1074).toNat = C * 2 ^ E := by
  by_cases h0 : C = 0
  · subst h0
    refine ⟨0, FP.Core.b64.qmin, ?_, by rw [Nat.zero_mul, Nat.zero_mul]⟩
    unfold FP.Core.roundRatio; rw [if_pos rfl]
  · have hL := Nat.log2_self_le h0
    have hL2 : C < 2 ^ (C.log2 + 1) := Nat.lt_log2_self
    have hL3 : C.log2 < 53 := (Nat.log2_lt h0).mpr hC
    obtain ⟨L, hLe⟩ : ∃ L, L = C.log2 := ⟨_, rfl⟩
    rw [← hLe] at hL hL2 hL3
    obtain ⟨d, hd⟩ : ∃ d, d = min E (52 - L) := ⟨_, rfl⟩
    refine ⟨C * 2 ^ d, (E : Int) - d - 1074, ?_, ?_⟩
    · refine FP.Core.roundRatio_exact FP.Core.good_b64 (by decide) ⟨?_, ?_, ?_, ?_⟩ ?_
      · show C * 2 ^ d < 2 ^ 53
        calc C * 2 ^ d < 2 ^ (L + 1) * 2 ^ d := Nat.mul_lt_mul_of_pos_right hL2 (Nat.two_pow_pos d)
          _ = 2 ^ (L + 1 + d) := (Nat.pow_add ..).symm
          _ ≤ 2 ^ 53 := Nat.pow_le_pow_right (by decide) (by omega)
      · rw [FP.Core.qmin_b64]; omega
      · rw [qmax_64]; omega
      · by_cases hh : d = E
        · left; rw [FP.Core.qmin_b64]; omega
        · right
          show 2 ^ 52 ≤ C * 2 ^ d
          calc 2 ^ 52 = 2 ^ (L + d) := by rw [show L + d = 52 by omega]
            _ = 2 ^ L * 2 ^ d := Nat.pow_add ..
            _ ≤ C * 2 ^ d := Nat.mul_le_mul_right _ hL
      · rw [show ((E : Int) - 1074 - ((E : Int) - d - 1074)).toNat = d by omega, show ((E : Int) - d - 1074 - ((E : Int) - 1074)).toNat = 0 by omega]; simp
    · rw [show ((E : Int) - d - 1074 + 1074).toNat = E - d by omega, Nat.mul_assoc, ← Nat.pow_add, show d + (E - d) = E by omega]
theorem VX_inj {x y : UInt64} {s : Bool} {m : Nat} (hx : VX x s m) (hy : VX y s m) : x = y := by
  obtain ⟨c, q, h1, h2⟩ := hx
  obtain ⟨c', q', h3, h4⟩ := hy
  refine FP.Core.val64_inj (by rw [h1]; exact FP.Core.Datum.noConfusion) ?_
  have a := FP.Core.round_of_fits FP.Core.good_b64 (FP.Core.val64_fits x)
  have b := FP.Core.round_of_fits FP.Core.good_b64 (FP.Core.val64_fits y)
  rw [h1] at a
  rw [h3] at b
  rw [h1, h3]
  have e : FP.Core.roundRatio FP.Core.b64 s c 1 q = FP.Core.roundRatio FP.Core.b64 s c' 1 q' := by
    refine FP.Core.roundRatio_congr (by decide) (by decide) ?_
    rw [Nat.mul_one, Nat.mul_one]
    exact VX_cross (K := 1074) (VX_q h1).1 (VX_q h3).1 (h2.trans h4.symm)
  exact a.symm.trans (e.trans b)
theorem VX_mul {x y : UInt64} {s t : Bool} {m k C E : Nat} (hx : VX x s m) (hy : VX y t k) (hn : m * k = C * 2 ^ E * U74) (hC : C < 2 ^ 53) (hE : E ≤ 2045) : VX (FP.dmul x y) (s != t) (C * 2 ^ E) := by
  obtain ⟨c, q, h1, h2⟩ := hx
  obtain ⟨d, r, h3, h4⟩ := hy
  obtain ⟨a, p, h5, h6⟩ := VX_round (s != t) C E hC hE
  refine ⟨a, p, ?_, h6⟩
  rw [show FP.Core.val64 (FP.dmul x y) = _ from FP.Core.val64_dmul x y, h1, h3, ← h5]
  show FP.Core.roundRatio FP.Core.b64 (s != t) (c * d) 1 (q + r) = _
  have hq := VX_q h1
  have hr := VX_q h3
  refine FP.Core.roundRatio_congr (by decide) (by decide) ?_
  rw [Nat.mul_one, Nat.mul_one]
  refine VX_cross (K := 2148) (by omega) (by omega) ?_
  have e1 : ((q + r) + ((2148 : Nat) : Int)).toNat = (q + 1074).toNat + (r + 1074).toNat := by omega
  have e2 : ((E : Int) - 1074 + ((2148 : Nat) : Int)).toNat = E + 1074 := by omega
  rw [e1, e2, Nat.pow_add, Nat.pow_add, ← U74_eq]
  calc c * d * (2 ^ (q + 1074).toNat * 2 ^ (r + 1074).toNat) = (c * 2 ^ (q + 1074).toNat) * (d * 2 ^ (r + 1074).toNat) := by ac_rfl
    _ = C * (2 ^ E * U74) := by rw [h2, h4, hn, Nat.mul_assoc]
theorem VX_div {x y : UInt64} {s t : Bool} {m k C E : Nat} (hx : VX x s m) (hy : VX y t k) (hk : 0 < k) (hn : m * U74 = C * 2 ^ E * k) (hC : C < 2 ^ 53) (hE : E ≤ 2045) : VX (FP.ddiv x y) (s != t) (C * 2 ^ E) := by
  obtain ⟨c, q, h1, h2⟩ := hx
  obtain ⟨d, r, h3, h4⟩ := hy
  obtain ⟨a, p, h5, h6⟩ := VX_round (s != t) C E hC hE
  refine ⟨a, p, ?_, h6⟩
  have hd : d ≠ 0 := by
    intro h; rw [h, Nat.zero_mul] at h4; omega
  rw [show FP.Core.val64 (FP.ddiv x y) = _ from FP.Core.val64_ddiv x y, h1, h3, ← h5]
  show (if d = 0 then (if c = 0 then FP.Core.Datum.nan else .inf (s != t)) else FP.Core.roundRatio FP.Core.b64 (s != t) c d (q - r)) = _
  rw [if_neg hd]
  have hq := VX_q h1
  have hr := VX_q h3
  refine FP.Core.roundRatio_congr (by omega) (by decide) ?_
  rw [Nat.mul_one]
  have h9 := VX_cross (c := c) (c' := C * d) (K := 2148) (q := q) (q' := (E : Int) - 1074 + r) (by omega) (by omega) (by
    have e1 : (q + ((2148 : Nat) : Int)).toNat = (q + 1074).toNat + 1074 := by omega
    have e2 : ((E : Int) - 1074 + r + ((2148 : Nat) : Int)).toNat = E + (r + 1074).toNat := by omega
    rw [e1, e2, Nat.pow_add, Nat.pow_add, ← U74_eq]
    calc c * (2 ^ (q + 1074).toNat * U74) = (c * 2 ^ (q + 1074).toNat) * U74 := (Nat.mul_assoc _ _ _).symm
      _ = C * 2 ^ E * (d * 2 ^ (r + 1074).toNat) := by rw [h2, h4, hn]
      _ = C * d * (2 ^ E * 2 ^ (r + 1074).toNat) := by ac_rfl)
  rw [show q - r - ((E : Int) - 1074) = q - ((E : Int) - 1074 + r) by omega, show (E : Int) - 1074 - (q - r) = (E : Int) - 1074 + r - q by omega]
  exact h9
theorem VX_i2d {z : Int} (h : R32 z) : VX (FP.i2d (iI z)) (decide (z < 0)) (z.natAbs * 2 ^ 1074) := by
  obtain ⟨a, p, h5, h6⟩ := VX_round (decide (z < 0)) z.natAbs 1074 (by omega) (by decide)
  refine ⟨a, p, ?_, h6⟩
  rw [show FP.Core.val64 (FP.i2d (iI z)) = _ from FP.Core.val64_i2d (iI z), iI_toInt h]
  rw [show ((1074 : Nat) : Int) - 1074 = 0 by decide] at h5
  exact h5
theorem VX_l2d {z : Int} (h : R32 z) : VX (FP.l2d (lI z)) (decide (z < 0)) (z.natAbs * 2 ^ 1074) := by
  obtain ⟨a, p, h5, h6⟩ := VX_round (decide (z < 0)) z.natAbs 1074 (by omega) (by decide)
  refine ⟨a, p, ?_, h6⟩
  rw [show FP.Core.val64 (FP.l2d (lI z)) = _ from FP.Core.val64_l2d (lI z), lI_toInt ⟨by omega, by omega⟩]
  rw [show ((1074 : Nat) : Int) - 1074 = 0 by decide] at h5
  exact h5
theorem VX_two : VX 4611686018427387904 false (2 * U74) := by
  refine ⟨2 ^ 52, -51, by decide +kernel, ?_⟩
  rw [show ((-51 : Int) + 1074).toNat = 1023 by decide, ← Nat.pow_add, show 52 + 1023 = 1074 + 1 by decide, Nat.pow_succ, Nat.mul_comm, U74_eq]
theorem VX_one : VX FP.dconst1 false (1 * 2 ^ 1074) := by
  refine ⟨2 ^ 52, -52, by decide +kernel, ?_⟩
  rw [show ((-52 : Int) + 1074).toNat = 1022 by decide, ← Nat.pow_add, show 52 + 1022 = 1074 by decide, Nat.one_mul]
theorem bne_f (s : Bool) : (s != false) = s := by cases s <;> rfl
theorem VX_mulN {x : UInt64} {s : Bool} {C E : Nat} (h : VX x s (C * 2 ^ E)) (hC : C < 2 ^ 53) : ∀ j, E + j ≤ 2045 → VX (mulN x 4611686018427387904 j) s (C * 2 ^ (E + j))
  | 0, _ => h
  | j + 1, hj => by
    have ih := VX_mulN h hC j (by omega)
    have h9 := VX_mul (C := C) (E := E + (j + 1)) ih VX_two (by
      rw [show E + (j + 1) = (E + j) + 1 by omega, Nat.pow_succ]; exact ac_1 _ _ _) hC (by omega)
    rw [bne_f] at h9
    exact h9
theorem VX_divN {x : UInt64} {s : Bool} {C E : Nat} (h : VX x s (C * 2 ^ E)) (hC : C < 2 ^ 53) (hE : E ≤ 2045) : ∀ j, j ≤ E → VX (divN x 4611686018427387904 j) s (C * 2 ^ (E - j))
  | 0, _ => h
  | j + 1, hj => by
    have ih := VX_divN h hC hE j (by omega)
    have hU : 0 < U74 := by rw [U74_eq]; exact Nat.two_pow_pos _
    have h9 := VX_div (C := C) (E := E - (j + 1)) ih VX_two (Nat.mul_pos (by decide) hU) (by
      rw [show E - j = (E - (j + 1)) + 1 by omega, Nat.pow_succ]; exact (ac_1 _ _ _).symm) hC (by omega)
    rw [bne_f] at h9
    exact h9
theorem VX_scl {x : UInt64} {s : Bool} {C E : Nat} (h : VX x s (C * 2 ^ E)) (hC : C < 2 ^ 53) (hE : E ≤ 2045) {t : Int} (ht : 0 ≤ (E : Int) + t ∧ (E : Int) + t ≤ 2045) : VX (scl x 4611686018427387904 t) s (C * 2 ^ ((E : Int) + t).toNat) := by
  unfold scl
  by_cases c : 0 ≤ t
  · rw [show (-t).toNat = 0 by omega, show ((E : Int) + t).toNat = E + t.toNat by omega]
    exact VX_mulN h hC t.toNat (by omega)
  · rw [show t.toNat = 0 by omega, show ((E : Int) + t).toNat = E - (-t).toNat by omega]
    exact VX_divN h hC hE (-t).toNat (by omega)
theorem fx_mul {z t : Int} (hz : R32 z) (ht : -1074 ≤ t ∧ t ≤ 900) : FP.dmul (FP.l2d (lI z)) (scl FP.dconst1 4611686018427387904 t) = scl (FP.i2d (iI z)) 4611686018427387904 t := by
  have hC : z.natAbs < 2 ^ 53 := by omega
  have h1 := VX_scl VX_one (by decide) (by decide) (t := t) (by omega)
  have h2 := VX_scl (VX_i2d hz) hC (by decide) (t := t) (by omega)
  have h3 := VX_mul (C := z.natAbs) (E := (((1074 : Nat) : Int) + t).toNat) (VX_l2d hz) h1 (by
    rw [← U74_eq, Nat.one_mul]; exact Nat.mul_right_comm _ _ _) hC (by omega)
  rw [bne_f] at h3
  exact VX_inj h3 h2
theorem fx_div {z y : Int} (hz : R32 z) (hy : 0 ≤ y ∧ y ≤ 900) : FP.ddiv (FP.l2d (lI z)) (scl FP.dconst1 4611686018427387904 y) = scl (FP.i2d (iI z)) 4611686018427387904 (-y) := by
  have hC : z.natAbs < 2 ^ 53 := by omega
  have h1 := VX_scl VX_one (by decide) (by decide) (t := y) (by omega)
  have h2 := VX_scl (VX_i2d hz) hC (by decide) (t := -y) (by omega)
  have h3 := VX_div (C := z.natAbs) (E := (((1074 : Nat) : Int) + -y).toNat) (VX_l2d hz) h1 (Nat.mul_pos (by decide) (Nat.two_pow_pos _)) (by
    rw [Nat.one_mul, Nat.mul_assoc, Nat.mul_assoc, ← Nat.pow_add, U74_eq, ← Nat.pow_add, show (((1074 : Nat) : Int) + -y).toNat + (((1074 : Nat) : Int) + y).toNat = 1074 + 1074 by omega]) hC (by omega)
  rw [bne_f] at h3
  exact VX_inj h3 h2
