theorem m_w {m w : Int} (hw : w = 2 ∨ w = 4) (hm : 0 ≤ m ∧ m < 65536) : 0 ≤ m * w ∧ m * w ≤ 262144 := by
  rcases hw with e | e <;> subst e <;> omega
