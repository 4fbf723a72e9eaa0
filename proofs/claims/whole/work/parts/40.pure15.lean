/-! next: where it stands, what it answers -/
def nxS (B : Nat → Nat) (n rd : Int) : Int := fw B n rd 0
def nxK (B : Nat → Nat) (n e rd br : Int) : Int := rtN B n e (nxS B n rd) br (bA B n (nxS B n rd))
def nxA (B : Nat → Nat) (n e rd br : Int) : Int := if nxS B n rd = n then (if e = 0 then 0 else if br ≤ 0 then 20 else -7) else nxK B n e rd br
def nxBr (B : Nat → Nat) (n e rd br : Int) : Int := if nxS B n rd = n ∧ ¬ e = 0 ∧ 0 < br then 0 else br
def nxLp (B : Nat → Nat) (n e rd br lp : Int) (bp : Nat → Int) : Int := if nxS B n rd = n then (if ¬ e = 0 ∧ 0 < br then bp (br - 1).toNat else lp) else if nxK B n e rd br < 0 then rtP B n (nxS B n rd) (bA B n (nxS B n rd)) else lp
def nxRd (B : Nat → Nat) (n e rd br : Int) : Int := if ¬ nxS B n rd = n ∧ nxK B n e rd br < 0 then rtF B n (nxS B n rd) (bA B n (nxS B n rd)) else rd
theorem rtB_le {B : Nat → Nat} {n e p br c base : Int} (h : rtN B n e p br c ≤ 0) : rtB B n e p c base = base := by
  by_cases h0 : isB c
  · exact (rt_bin h0 B n e p br base).2.2.2.2.2.2.2
  · by_cases h1 : c = 40
    · subst h1; exact (rt_40 B n e p br base).2.2.2.2.2.2.2
    · by_cases h2 : c = 41
      · subst h2; exact (rt_41 B n e p br base).2.2.2.2.2.2.2
      · by_cases h3 : c = 47
        · subst h3; exact (rt_47 B n e p br base).2.2.2.2.2.2.2
        · by_cases h4 : c = 60
          · subst h4; exact (rt_60 B n e p br base).2.2.2.2.2.2.2
          · by_cases h5 : c = 62
            · subst h5; exact (rt_62 B n e p br base).2.2.2.2.2.2.2
            · by_cases h6 : c = 91
              · subst h6; exact (rt_91 B n e p br base).2.2.2.2.2.2.2
              · by_cases h7 : c = 93
                · subst h7; exact (rt_93 B n e p br base).2.2.2.2.2.2.2
                · by_cases h8 : c = 123
                  · subst h8; exact (rt_123 B n e p br base).2.2.2.2.2.2.2
                  · by_cases h9 : c = 125
                    · subst h9; exact (rt_125 B n e p br base).2.2.2.2.2.2.2
                    · have hn : noT c := ⟨h0, h1, h2, h3, h4, h5, h6, h7, h8, h9⟩
                      rw [(rt_def hn B n e p br base).2.2.2.2.2.2.2]
                      rw [(rt_def hn B n e p br base).1] at h
                      unfold wdB; rw [if_neg (by omega)]
