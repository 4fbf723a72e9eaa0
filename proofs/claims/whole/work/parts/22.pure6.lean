theorem ph_shr {g q : Int} (h : 0 ≤ g ∧ g < 9223372036854775808) (hq : 0 ≤ q ∧ q ≤ 3) : lI g >>> ((iI (24 - 8 * q)).toInt64 &&& 63) = lI (g / 2 ^ (24 - 8 * q.toNat)) := by
  rcases (show q = 0 ∨ q = 1 ∨ q = 2 ∨ q = 3 by omega) with e | e | e | e <;> subst e
  · exact lI_shr h (s := 24) (by decide)
  · exact lI_shr h (s := 16) (by decide)
  · exact lI_shr h (s := 8) (by decide)
  · exact lI_shr h (s := 0) (by decide)
theorem ph_step {t : Nat → Nat} {ln g q : Int} {o : List Nat} (hq : 0 ≤ q) (h : TX t ln ((o ++ hiL g q.toNat) ++ [by8 (g / 2 ^ (24 - 8 * q.toNat) % 256)])) : TX t ln (o ++ hiL g (q + 1).toNat) := by
  rw [show (q + 1).toNat = q.toNat + 1 by omega]
  rw [by8_mod, List.append_assoc] at h
  exact h
theorem ph_end {t : Nat → Nat} {ln g q c : Int} {o : List Nat} (h1 : 0 ≤ q ∧ (q ≤ c ∨ q = 0)) (h2 : c ≤ q) (h : TX t ln (o ++ hiL g q.toNat)) : TX t ln (o ++ hiL g c.toNat) := by
  rw [show c.toNat = q.toNat by omega]; exact h
