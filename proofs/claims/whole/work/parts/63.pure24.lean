/-! the reference's next -/
section RD4
variable {B : Nat → Nat} {n e p z nw ns nrw nir c base nb dn dp : Int} {nr : UInt64} {t : Nat → Nat} {yi : Nat → Int} {yd : Nat → UInt64}
theorem rg_ns (G : RdG B n e p c base z nw nb ns nrw nir nr t yi yd) (h : 3 ≤ z ∧ z ≤ 6) : 0 ≤ ns ∧ ns ≤ 400 := by
  obtain ⟨⟨a, -, -⟩, b⟩ := G.2.2.1 h
  exact ⟨by rw [a]; omega, b⟩
theorem rg_nrw (G : RdG B n e p c base z nw nb ns nrw nir nr t yi yd) (h : z = 16) : 0 ≤ nrw ∧ nrw ≤ 60 := by
  have a := G.2.2.2.2.2.1 h
  exact ⟨a.1, a.2.1⟩
theorem bi_9 (h : biA B n e p c = 9) : False := (biA_C B n e p c).1 h
/-- a { is answered where there is room -/
theorem rt_9 (h : rtN B n e p dp c = 9) : dp < 20 ∧ c = 123 := by
  unfold rtN at h
  (repeat' split at h)
  · exact absurd h (biA_C B n e p c).1
  · have := stA_C e (rdS B n (p + 1) 1 []); omega
  · omega
  · have a := rtA_C (we B n (slS B n p)) n e (slS B n p) (slK B n p)
    have b : slK B n p = 5 ∨ slK B n p = 4 := by unfold slK; split <;> simp
    omega
  · have := lsA_C B n e p; omega
  · have := grA_C B n e p; omega
  · omega
  · omega
  · omega
  · omega
  · omega
  · omega
  · have := wdA_C B n e p; omega
theorem rg_dp (h : nxK B n e dn dp = 9) : dp < 20 := (rt_9 h).1
theorem nx_op {op2 opf : Nat → Int} {d : Nat} {np2 : Int} (h : op2 = (if z = 9 then uI opf d np2 else opf)) (hnp : np2 = rtP B n p c) (hz : z = rtN B n e p dp c) : op2 = (if z = 9 then uI opf d p else opf) := by
  rw [h]
  by_cases h9 : z = 9
  · have hc := (rt_9 (hz.symm.trans h9)).2
    rw [if_pos h9, if_pos h9, hnp, hc, (rt_123 B n e p dp 0).2.2.1]
  · rw [if_neg h9, if_neg h9]
theorem fw_st2 : ∀ (k : Nat) (i c : Int), (n - i).toNat = k → i ≤ n → ¬ fw B n i c = n → (∀ b, bA B n (fw B n i c) = b → ¬ isW b) ∧ fw B n i c < n
  | 0, i, c, hk, h, hs => by rw [fw_out (by omega)] at hs; exact absurd rfl hs
  | k + 1, i, c, hk, h, hs => by
    rw [fw_s (by omega)] at hs ⊢
    by_cases c2 : cmt c (bA B n i) = 0 ∧ ¬ isW (bA B n i)
    · rw [if_pos c2]; exact ⟨fun b hb => by rw [← hb]; exact c2.2, by omega⟩
    · rw [if_neg c2] at hs ⊢
      exact fw_st2 k (i + 1) _ (by omega) (by omega) hs
theorem fw_st3 : ∀ (k : Nat) (i c : Int), (n - i).toNat = k → i ≤ n → ¬ fw B n i c = n → ¬ bA B n (fw B n i c) = 37
  | 0, i, c, hk, h, hs => by rw [fw_out (by omega)] at hs; exact absurd rfl hs
  | k + 1, i, c, hk, h, hs => by
    rw [fw_s (by omega)] at hs ⊢
    by_cases c2 : cmt c (bA B n i) = 0 ∧ ¬ isW (bA B n i)
    · rw [if_pos c2]
      intro h37
      have h1 := c2.1
      unfold cmt at h1
      (repeat' split at h1) <;> omega
    · rw [if_neg c2] at hs ⊢
      exact fw_st3 k (i + 1) _ (by omega) (by omega) hs
theorem fw_st (h : 0 ≤ dn ∧ dn ≤ n) (hs : ¬ nxS B n dn = n) : ¬ isW (bA B n (nxS B n dn)) ∧ ¬ bA B n (nxS B n dn) = 37 :=
  ⟨(fw_st2 _ dn 0 rfl h.2 hs).1 _ rfl, fw_st3 _ dn 0 rfl h.2 hs⟩
end RD4
