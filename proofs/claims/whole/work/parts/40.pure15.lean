/-! next: where it stands, what it answers -/
def nxS (B : Nat → Nat) (n rd : Int) : Int := fw B n rd 0
def nxK (B : Nat → Nat) (n e rd br : Int) : Int := rtN B n e (nxS B n rd) br (bA B n (nxS B n rd))
def nxA (B : Nat → Nat) (n e rd br : Int) : Int := if nxS B n rd = n then (if e = 0 then 0 else if br ≤ 0 then 20 else -7) else nxK B n e rd br
def nxBr (B : Nat → Nat) (n e rd br : Int) : Int := if nxS B n rd = n ∧ ¬ e = 0 ∧ 0 < br then 0 else br
def nxLp (B : Nat → Nat) (n e rd br lp : Int) (bp : Nat → Int) : Int := if nxS B n rd = n then (if ¬ e = 0 ∧ 0 < br then bp (br - 1).toNat else lp) else if nxK B n e rd br < 0 then rtP B n (nxS B n rd) (bA B n (nxS B n rd)) else lp
def nxRd (B : Nat → Nat) (n e rd br : Int) : Int := if ¬ nxS B n rd = n ∧ nxK B n e rd br < 0 then rtF B n (nxS B n rd) (bA B n (nxS B n rd)) else rd
theorem rtB_le {B : Nat → Nat} {n e p br c base : Int} (h : rtN B n e p br c ≤ 0) : rtB B n e p c base = base := by
  by_cases h0 : isB c
  · exact (rt_bin h0 B n e p br base).2.2.2.2.2.2.2
  · by_cases h1 : c = 40
    · subst h1; exact (rt_40 B n e p br base).2.2.2.2.2.2.2
    · by_cases h2 : c = 41
      · subst h2; exact (rt_41 B n e p br base).2.2.2.2.2.2.2
      · by_cases h3 : c = 47
        · subst h3; exact (rt_47 B n e p br base).2.2.2.2.2.2.2
        · by_cases h4 : c = 60
          · subst h4; exact (rt_60 B n e p br base).2.2.2.2.2.2.2
          · by_cases h5 : c = 62
            · subst h5; exact (rt_62 B n e p br base).2.2.2.2.2.2.2
            · by_cases h6 : c = 91
              · subst h6; exact (rt_91 B n e p br base).2.2.2.2.2.2.2
              · by_cases h7 : c = 93
                · subst h7; exact (rt_93 B n e p br base).2.2.2.2.2.2.2
                · by_cases h8 : c = 123
                  · subst h8; exact (rt_123 B n e p br base).2.2.2.2.2.2.2
                  · by_cases h9 : c = 125
                    · subst h9; exact (rt_125 B n e p br base).2.2.2.2.2.2.2
                    · have hn : noT c := ⟨h0, h1, h2, h3, h4, h5, h6, h7, h8, h9⟩
                      rw [(rt_def hn B n e p br base).2.2.2.2.2.2.2]
                      rw [(rt_def hn B n e p br base).1] at h
                      unfold wdB; rw [if_neg (by omega)]
theorem nuA_lo {n e q kd : Int} (h : -7 ≤ kd) : -7 ≤ nuA n e q kd := by
  unfold nuA; (repeat' split) <;> omega
theorem lo_ite {c : Prop} [Decidable c] {a b : Int} (ha : -7 ≤ a) (hb : -7 ≤ b) : -7 ≤ (if c then a else b) := by
  by_cases h : c
  · rw [if_pos h]; exact ha
  · rw [if_neg h]; exact hb
theorem frA_lo (B : Nat → Nat) (n p h m : Int) : -7 ≤ frA B n p h m := by
  unfold frA; (repeat' (first | refine lo_ite ?_ ?_ | split)) <;> omega
theorem biA_lo (B : Nat → Nat) (n e p c : Int) : -7 ≤ biA B n e p c := by
  unfold biA fxA sbA rwA
  repeat' (first | refine lo_ite ?_ ?_ | refine nuA_lo ?_ | exact frA_lo _ _ _ _ _ | omega)
theorem rtN_R (B : Nat → Nat) (n e p br c : Int) : -7 ≤ rtN B n e p br c ∧ rtN B n e p br c ≤ 16 := by
  have h1 := biA_lo B n e p c
  have h2 : biA B n e p c ≤ 16 := by have := biA_K B n e p c; omega
  have h3 := stA_C e (rdS B n (p + 1) 1 [])
  have h4 := lsA_C B n e p
  have h5 := grA_C B n e p
  have h6 := wdA_C B n e p
  have h7 : -7 ≤ rtA (we B n (slS B n p)) n e (slS B n p) (slK B n p) ∧ rtA (we B n (slS B n p)) n e (slS B n p) (slK B n p) ≤ 16 := by
    have a := rtA_C (we B n (slS B n p)) n e (slS B n p) (slK B n p)
    have b : slK B n p = 5 ∨ slK B n p = 4 := by unfold slK; split <;> simp
    omega
  unfold rtN
  (repeat' split) <;> omega
theorem nxK_R (B : Nat → Nat) (n e rd br : Int) : -7 ≤ nxK B n e rd br ∧ nxK B n e rd br ≤ 16 := rtN_R _ _ _ _ _ _
theorem nxBr_end {B : Nat → Nat} {n e rd br : Int} (h : nxS B n rd = n) : (if ¬ e = 0 ∧ 0 < br then 0 else br) = nxBr B n e rd br := by
  unfold nxBr
  by_cases h9 : ¬ e = 0 ∧ 0 < br
  · rw [if_pos h9, if_pos ⟨h, h9⟩]
  · rw [if_neg h9, if_neg (fun h8 => h9 h8.2)]
