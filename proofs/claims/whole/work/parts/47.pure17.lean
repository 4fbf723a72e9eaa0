/-! the reference's text: all signs counted, the first 400 kept -/
def TY (t : Nat → Nat) (ns : Int) (o : List Nat) : Prop := ns = (o.length : Int) ∧ (∀ j, j < o.length → j < 400 → t j = o.getD j 0) ∧ ∀ j, t j < 256
def putY (t : Nat → Nat) (ns v : Int) : Nat → Nat := if ns < 400 then uB t ns.toNat (by8 v) else t
theorem TY_0 {t : Nat → Nat} (h : ∀ j, t j < 256) : TY t 0 [] := ⟨rfl, fun j hj => absurd hj (Nat.not_lt_zero j), h⟩
theorem TY_put {t : Nat → Nat} {ns v : Int} {o : List Nat} (h : TY t ns o) : TY (putY t ns v) (ns + 1) (o ++ [by8 v]) := by
  obtain ⟨h1, h2, h3⟩ := h
  refine ⟨by rw [List.length_append]; simp; omega, ?_, ?_⟩
  · intro j hj hj4
    rw [List.length_append] at hj
    simp at hj
    unfold putY
    by_cases c : j < o.length
    · rw [show (o ++ [by8 v]).getD j 0 = o.getD j 0 from by rw [List.getD_eq_getElem?_getD, List.getD_eq_getElem?_getD, List.getElem?_append_left c]]
      split
      · unfold uB
        rw [if_neg (by omega)]
        exact h2 j c hj4
      · exact h2 j c hj4
    · have e : j = o.length := by omega
      subst e
      rw [if_pos (by omega)]
      unfold uB
      rw [if_pos (by omega)]
      simp
  · intro j
    unfold putY
    split
    · unfold uB
      split
      · exact by8_lt _
      · exact h3 j
    · exact h3 j
theorem TY_wd {t B : Nat → Nat} {p c : Int} (hc : 0 ≤ c ∧ c ≤ 100) (ht : ∀ j, t j < 256) (h : ∀ j : Int, 0 ≤ j → j < c → j < 100 → t j.toNat = B (p + j).toNat) (hp : 0 ≤ p) : TY t c (wL B p c.toNat) := by
  refine ⟨by rw [wL_len]; omega, ?_, ht⟩
  intro j hj hj4
  rw [wL_len] at hj
  rw [wL_at _ _ _ _ hj]
  have e := h (j : Int) (by omega) (by omega) (by omega)
  simpa using e
theorem isP_pos {c : Int} (h : isP c) : 0 ≤ c := by
  rcases h with h | ⟨h, -⟩ <;> omega
theorem wr_step {t B : Nat → Nat} {p i c : Int} (hp : 0 ≤ p ∧ p ≤ i ∧ c = i - p) (h : ∀ j : Int, 0 ≤ j → j < c → j < 100 → t j.toNat = B (p + j).toNat) : ∀ j : Int, 0 ≤ j → j < c + 1 → j < 100 → uB t c.toNat (B i.toNat) j.toNat = B (p + j).toNat := by
  intro j h1 h2 h3
  unfold uB
  by_cases e : j = c
  · subst e
    rw [if_pos rfl, show p + j = i by omega]
  · rw [if_neg (by omega)]
    exact h j h1 (by omega) h3
theorem uB_lt {t B : Nat → Nat} {k m : Nat} (ht : ∀ j, t j < 256) (hB : ∀ j, B j < 256) : ∀ j, uB t k (B m) j < 256 := by
  intro j; unfold uB; split
  · exact hB m
  · exact ht j
theorem we_end {B : Nat → Nat} {n i q : Int} (h : i ≤ n) (hp : ¬ isP (bA B n i)) (h2 : we B n i = q) : i = q := by
  rw [← h2]
  by_cases h9 : i < n
  · rw [we_s h9, if_neg hp]
  · rw [we_out (by omega)]; omega
theorem we_go {B : Nat → Nat} {n i : Int} (hp : isP (bA B n i)) : (0 ≤ i ∧ i < n) ∧ we B n i = we B n (i + 1) := by
  have h0 := isP_pos hp
  have hc : 0 ≤ i ∧ i < n := by
    by_cases c : 0 ≤ i ∧ i < n
    · exact c
    · rw [bA_out c] at h0; exact absurd h0 (by decide)
  exact ⟨hc, by rw [we_s hc.2, if_pos hp]⟩
theorem we_np {B : Nat → Nat} {n : Int} : ∀ (k : Nat) (i : Int), (n - i).toNat = k → i ≤ n → ¬ isP (bA B n (we B n i))
  | 0, i, hk, h => by
    rw [we_out (by omega), bA_out (by omega)]
    decide
  | k + 1, i, hk, h => by
    rw [we_s (by omega)]
    split
    · exact we_np k (i + 1) (by omega) (by omega)
    · assumption
theorem we_35 {B : Nat → Nat} {n i : Int} (h : i ≤ n) : ¬ bA B n (we B n i) = 35 := by
  have h9 := we_np (B := B) (n := n) _ i rfl h
  intro e
  rw [e] at h9
  exact h9 (by decide)
theorem rtA_wdA {B : Nat → Nat} {n e p : Int} (h : ¬ rtA (we B n p) n e p 1 = 1) : rtA (we B n p) n e p 1 = wdA B n e p := by
  unfold rtA at h ⊢
  unfold wdA
  split at h
  · rename_i c; rw [if_pos c, if_pos c]
  · rename_i c
    split at h
    · rename_i c2; rw [if_neg c, if_pos c2, if_neg c, if_pos c2]
    · exact absurd rfl h
theorem rtA_wA {B : Nat → Nat} {n e p : Int} (h : rtA (we B n p) n e p 1 = 1) : wdA B n e p = wA (wd B p (we B n p)) (we B n p - p) := by
  unfold rtA at h
  unfold wdA
  split at h
  · exact absurd h (by decide)
  · rename_i c
    split at h
    · exact absurd h (by decide)
    · rename_i c2; rw [if_neg c, if_neg c2]
