/-! WHAT IS READ at p: answer, end, place, value, real, bytes, row's length, base; c its first byte, br the depth -/
def lsR (B : Nat → Nat) (n p : Int) : SR := if bA B n (p + 1) = 126 then e5S B n (p + 2) 0 0 [] else hxS B n (p + 1) (-1) []
def lsA (B : Nat → Nat) (n e p : Int) : Int := if bA B n (p + 1) = -1 then (if e = 0 then 0 else -7) else if bA B n (p + 1) = 60 then 11 else stA e (lsR B n p)
def lsF (B : Nat → Nat) (n p : Int) : Int := if bA B n (p + 1) = -1 then n else if bA B n (p + 1) = 60 then p + 2 else stF n (lsR B n p)
def lsP (B : Nat → Nat) (n p : Int) : Int := if bA B n (p + 1) = -1 then p else if bA B n (p + 1) = 60 then p else stP p (lsR B n p)
def lsW (B : Nat → Nat) (n p : Int) : Int := if bA B n (p + 1) = 60 then 0 else ((lsR B n p).2.2.length : Int)
def lsO (B : Nat → Nat) (n p : Int) : List Nat := if bA B n (p + 1) = 60 then [] else (lsR B n p).2.2
def grA (B : Nat → Nat) (n e p : Int) : Int := if bA B n (p + 1) = -1 then (if e = 0 then 0 else -4) else if bA B n (p + 1) = 62 then 12 else -4
def grF (B : Nat → Nat) (n p : Int) : Int := if bA B n (p + 1) = 62 then p + 2 else p + 1
def wdW (B : Nat → Nat) (n e p : Int) : Int := if wdA B n e p = 1 then wV (wd B p (we B n p)) (we B n p - p) else if wdA B n e p = 3 then we B n p - p else 0
def wdR (B : Nat → Nat) (n e p : Int) : UInt64 := if wdA B n e p = 2 then rrV (wd B p (we B n p)) (we B n p - p) else FP.dconst0
def wdO (B : Nat → Nat) (n e p : Int) : List Nat := if wdA B n e p = 3 then wL B p (we B n p - p).toNat else []
def wdB (B : Nat → Nat) (n e p base : Int) : Int := if wdA B n e p = 1 then wBs (wd B p (we B n p)) (we B n p - p) else base
abbrev isB (c : Int) : Prop := 128 ≤ c ∧ c ≤ 159
def rtN (B : Nat → Nat) (n e p br c : Int) : Int :=
  if isB c then biA B n e p c else if c = 40 then stA e (rdS B n (p + 1) 1 []) else if c = 41 then -4 else if c = 47 then rtA (we B n (slS B n p)) n e (slS B n p) (slK B n p)
  else if c = 60 then lsA B n e p else if c = 62 then grA B n e p else if c = 91 then 7 else if c = 93 then 8 else if c = 123 then (if 20 ≤ br then -2 else 9) else if c = 125 then (if br = 0 then -4 else 10) else wdA B n e p
def rtF (B : Nat → Nat) (n p c : Int) : Int :=
  if isB c then biF B n p c else if c = 40 then stF n (rdS B n (p + 1) 1 []) else if c = 41 then p + 1 else if c = 47 then we B n (slS B n p)
  else if c = 60 then lsF B n p else if c = 62 then grF B n p else if c = 91 then p + 1 else if c = 93 then p + 1 else if c = 123 then p + 1 else if c = 125 then p + 1 else we B n p
def rtP (B : Nat → Nat) (n p c : Int) : Int :=
  if isB c then biP B n p c else if c = 40 then stP p (rdS B n (p + 1) 1 []) else if c = 60 then lsP B n p else p
def rtW (B : Nat → Nat) (n e p c : Int) : Int :=
  if isB c then biW B n p c else if c = 40 then ((rdS B n (p + 1) 1 []).2.2.length : Int) else if c = 41 then 0 else if c = 47 then we B n (slS B n p) - slS B n p
  else if c = 60 then lsW B n p else if c = 62 then 0 else if c = 91 then 0 else if c = 93 then 0 else if c = 123 then 0 else if c = 125 then 0 else wdW B n e p
def rtR (B : Nat → Nat) (n e p c : Int) : UInt64 :=
  if isB c then biR B n p c else if c = 40 then FP.dconst0 else if c = 41 then FP.dconst0 else if c = 47 then FP.dconst0
  else if c = 60 then FP.dconst0 else if c = 62 then FP.dconst0 else if c = 91 then FP.dconst0 else if c = 93 then FP.dconst0 else if c = 123 then FP.dconst0 else if c = 125 then FP.dconst0 else wdR B n e p
def rtO (B : Nat → Nat) (n e p c : Int) : List Nat :=
  if isB c then biO B n p c else if c = 40 then (rdS B n (p + 1) 1 []).2.2 else if c = 41 then [] else if c = 47 then wL B (slS B n p) (we B n (slS B n p) - slS B n p).toNat
  else if c = 60 then lsO B n p else if c = 62 then [] else if c = 91 then [] else if c = 93 then [] else if c = 123 then [] else if c = 125 then [] else wdO B n e p
def rtL (B : Nat → Nat) (n p c : Int) : Int := if isB c then biL B n p c else 0
def rtB (B : Nat → Nat) (n e p c base : Int) : Int :=
  if isB c then base else if c = 40 then base else if c = 41 then base else if c = 47 then base
  else if c = 60 then base else if c = 62 then base else if c = 91 then base else if c = 93 then base else if c = 123 then base else if c = 125 then base else wdB B n e p base
theorem TX_wd {t B : Nat → Nat} {len i q : Int} (h : bA t len = wd B i q) (hl : len = q - i) (hR : 0 ≤ len ∧ len ≤ 401) (ht : ∀ j, t j < 256) : TX t len (wL B i (q - i).toNat) := by
  refine ⟨?_, ?_, ht⟩
  · rw [wL_len]; split <;> omega
  · intro j hj hj2
    rw [wL_len] at hj
    rw [wL_at _ _ _ _ hj]
    have e := congrFun h (j : Int)
    rw [bA_in ⟨by omega, by omega⟩] at e
    unfold wd at e
    rw [if_pos ⟨by omega, by omega⟩] at e
    simp at e; omega
theorem rtA_C (q n e i0 kd : Int) : rtA q n e i0 kd = 0 ∨ rtA q n e i0 kd = -2 ∨ (rtA q n e i0 kd = kd ∧ q - i0 ≤ 100) := by
  unfold rtA; split
  · exact Or.inl rfl
  · split
    · exact Or.inr (Or.inl rfl)
    · exact Or.inr (Or.inr ⟨rfl, by omega⟩)
theorem stA_C (e : Int) (r : SR) : stA e r = 0 ∨ stA e r = -7 ∨ stA e r = -2 ∨ stA e r = -3 ∨ stA e r = 6 := by
  unfold stA; (repeat' split) <;> simp
theorem wdA_C (B : Nat → Nat) (n e p : Int) : wdA B n e p = 0 ∨ wdA B n e p = -2 ∨ ((wdA B n e p = 1 ∨ wdA B n e p = 2 ∨ wdA B n e p = 3 ∨ wdA B n e p = -6) ∧ we B n p - p ≤ 100) := by
  unfold wdA; split
  · exact Or.inl rfl
  · split
    · exact Or.inr (Or.inl rfl)
    · refine Or.inr (Or.inr ⟨?_, by omega⟩)
      unfold wA
      split
      · simp
      · have h1 := rbA_c (wd B p (we B n p)) (we B n p - p)
        have h2 := rrA_c (wd B p (we B n p)) (we B n p - p)
        split <;> omega
theorem rt_40 (B : Nat → Nat) (n e p br base : Int) : rtN B n e p br 40 = stA e (rdS B n (p + 1) 1 []) ∧ rtF B n p 40 = stF n (rdS B n (p + 1) 1 []) ∧ rtP B n p 40 = stP p (rdS B n (p + 1) 1 []) ∧ rtW B n e p 40 = ((rdS B n (p + 1) 1 []).2.2.length : Int) ∧ rtR B n e p 40 = FP.dconst0 ∧ rtO B n e p 40 = (rdS B n (p + 1) 1 []).2.2 ∧ rtL B n p 40 = 0 ∧ rtB B n e p 40 base = base := by
  refine ⟨?_, ?_, ?_, ?_, ?_, ?_, ?_, ?_⟩ <;> simp [rtN, rtF, rtP, rtW, rtR, rtO, rtL, rtB, isB]
theorem rt_41 (B : Nat → Nat) (n e p br base : Int) : rtN B n e p br 41 = -4 ∧ rtF B n p 41 = p + 1 ∧ rtP B n p 41 = p ∧ rtW B n e p 41 = 0 ∧ rtR B n e p 41 = FP.dconst0 ∧ rtO B n e p 41 = [] ∧ rtL B n p 41 = 0 ∧ rtB B n e p 41 base = base := by
  refine ⟨?_, ?_, ?_, ?_, ?_, ?_, ?_, ?_⟩ <;> simp [rtN, rtF, rtP, rtW, rtR, rtO, rtL, rtB, isB]
theorem rt_47 (B : Nat → Nat) (n e p br base : Int) : rtN B n e p br 47 = rtA (we B n (slS B n p)) n e (slS B n p) (slK B n p) ∧ rtF B n p 47 = we B n (slS B n p) ∧ rtP B n p 47 = p ∧ rtW B n e p 47 = we B n (slS B n p) - slS B n p ∧ rtR B n e p 47 = FP.dconst0 ∧ rtO B n e p 47 = wL B (slS B n p) (we B n (slS B n p) - slS B n p).toNat ∧ rtL B n p 47 = 0 ∧ rtB B n e p 47 base = base := by
  refine ⟨?_, ?_, ?_, ?_, ?_, ?_, ?_, ?_⟩ <;> simp [rtN, rtF, rtP, rtW, rtR, rtO, rtL, rtB, isB]
theorem rt_60 (B : Nat → Nat) (n e p br base : Int) : rtN B n e p br 60 = lsA B n e p ∧ rtF B n p 60 = lsF B n p ∧ rtP B n p 60 = lsP B n p ∧ rtW B n e p 60 = lsW B n p ∧ rtR B n e p 60 = FP.dconst0 ∧ rtO B n e p 60 = lsO B n p ∧ rtL B n p 60 = 0 ∧ rtB B n e p 60 base = base := by
  refine ⟨?_, ?_, ?_, ?_, ?_, ?_, ?_, ?_⟩ <;> simp [rtN, rtF, rtP, rtW, rtR, rtO, rtL, rtB, isB]
theorem rt_62 (B : Nat → Nat) (n e p br base : Int) : rtN B n e p br 62 = grA B n e p ∧ rtF B n p 62 = grF B n p ∧ rtP B n p 62 = p ∧ rtW B n e p 62 = 0 ∧ rtR B n e p 62 = FP.dconst0 ∧ rtO B n e p 62 = [] ∧ rtL B n p 62 = 0 ∧ rtB B n e p 62 base = base := by
  refine ⟨?_, ?_, ?_, ?_, ?_, ?_, ?_, ?_⟩ <;> simp [rtN, rtF, rtP, rtW, rtR, rtO, rtL, rtB, isB]
theorem rt_91 (B : Nat → Nat) (n e p br base : Int) : rtN B n e p br 91 = 7 ∧ rtF B n p 91 = p + 1 ∧ rtP B n p 91 = p ∧ rtW B n e p 91 = 0 ∧ rtR B n e p 91 = FP.dconst0 ∧ rtO B n e p 91 = [] ∧ rtL B n p 91 = 0 ∧ rtB B n e p 91 base = base := by
  refine ⟨?_, ?_, ?_, ?_, ?_, ?_, ?_, ?_⟩ <;> simp [rtN, rtF, rtP, rtW, rtR, rtO, rtL, rtB, isB]
theorem rt_93 (B : Nat → Nat) (n e p br base : Int) : rtN B n e p br 93 = 8 ∧ rtF B n p 93 = p + 1 ∧ rtP B n p 93 = p ∧ rtW B n e p 93 = 0 ∧ rtR B n e p 93 = FP.dconst0 ∧ rtO B n e p 93 = [] ∧ rtL B n p 93 = 0 ∧ rtB B n e p 93 base = base := by
  refine ⟨?_, ?_, ?_, ?_, ?_, ?_, ?_, ?_⟩ <;> simp [rtN, rtF, rtP, rtW, rtR, rtO, rtL, rtB, isB]
theorem rt_123 (B : Nat → Nat) (n e p br base : Int) : rtN B n e p br 123 = (if 20 ≤ br then -2 else 9) ∧ rtF B n p 123 = p + 1 ∧ rtP B n p 123 = p ∧ rtW B n e p 123 = 0 ∧ rtR B n e p 123 = FP.dconst0 ∧ rtO B n e p 123 = [] ∧ rtL B n p 123 = 0 ∧ rtB B n e p 123 base = base := by
  refine ⟨?_, ?_, ?_, ?_, ?_, ?_, ?_, ?_⟩ <;> simp [rtN, rtF, rtP, rtW, rtR, rtO, rtL, rtB, isB]
theorem rt_125 (B : Nat → Nat) (n e p br base : Int) : rtN B n e p br 125 = (if br = 0 then -4 else 10) ∧ rtF B n p 125 = p + 1 ∧ rtP B n p 125 = p ∧ rtW B n e p 125 = 0 ∧ rtR B n e p 125 = FP.dconst0 ∧ rtO B n e p 125 = [] ∧ rtL B n p 125 = 0 ∧ rtB B n e p 125 base = base := by
  refine ⟨?_, ?_, ?_, ?_, ?_, ?_, ?_, ?_⟩ <;> simp [rtN, rtF, rtP, rtW, rtR, rtO, rtL, rtB, isB]
theorem rt_bin {c : Int} (h : isB c) (B : Nat → Nat) (n e p br base : Int) : rtN B n e p br c = biA B n e p c ∧ rtF B n p c = biF B n p c ∧ rtP B n p c = biP B n p c ∧ rtW B n e p c = biW B n p c ∧ rtR B n e p c = biR B n p c ∧ rtO B n e p c = biO B n p c ∧ rtL B n p c = biL B n p c ∧ rtB B n e p c base = base := ⟨if_pos h, if_pos h, if_pos h, if_pos h, if_pos h, if_pos h, if_pos h, if_pos h⟩
abbrev noT (c : Int) : Prop := ¬ isB c ∧ ¬ c = 40 ∧ ¬ c = 41 ∧ ¬ c = 47 ∧ ¬ c = 60 ∧ ¬ c = 62 ∧ ¬ c = 91 ∧ ¬ c = 93 ∧ ¬ c = 123 ∧ ¬ c = 125
theorem rt_def {c : Int} (h : noT c) (B : Nat → Nat) (n e p br base : Int) : rtN B n e p br c = wdA B n e p ∧ rtF B n p c = we B n p ∧ rtP B n p c = p ∧ rtW B n e p c = wdW B n e p ∧ rtR B n e p c = wdR B n e p ∧ rtO B n e p c = wdO B n e p ∧ rtL B n p c = 0 ∧ rtB B n e p c base = wdB B n e p base := by
  obtain ⟨h0, h1, h2, h3, h4, h5, h6, h7, h8, h9⟩ := h
  refine ⟨?_, ?_, ?_, ?_, ?_, ?_, ?_, ?_⟩ <;> simp only [rtN, rtF, rtP, rtW, rtR, rtO, rtL, rtB, h0, h1, h2, h3, h4, h5, h6, h7, h8, h9, if_false]
theorem stA_6 {e z : Int} {r : SR} (h : z = stA e r) (h0 : 0 < z) : z = 6 := by
  have := stA_C e r; omega
theorem off_n {a o k d : Int} {r : List (Int × Int)} (h : ¬ k = a) : Op.lookupswitch.offset ((a, o) :: r) d k = Op.lookupswitch.offset r d k := if_neg (fun q => h q.symm)
