/-! the reference's read, keep, next -/
section RD3
variable {B : Nat → Nat} {n e p z nw ns nrw nir c base nb br : Int} {nr : UInt64} {t : Nat → Nat} {yi : Nat → Int} {yd : Nat → UInt64}
theorem br_all (hc : c = 91 ∨ c = 93 ∨ c = 123 ∨ c = 125 ∨ c = 41 ∨ c = 62) : rtP B n p c = p ∧ rtW B n e p c = 0 ∧ rtR B n e p c = FP.dconst0 ∧ rtO B n e p c = [] ∧ rtL B n p c = 0 ∧ rtB B n e p c base = base ∧ (0 < rtN B n e p br c → 7 ≤ rtN B n e p br c ∧ rtN B n e p br c ≤ 12) := by
  rcases hc with h | h | h | h | h | h <;> subst h
  · obtain ⟨h1, h2, h3, h4, h5, h6, h7, h8⟩ := rt_91 B n e p br base; exact ⟨h3, h4, h5, h6, h7, h8, fun _ => by omega⟩
  · obtain ⟨h1, h2, h3, h4, h5, h6, h7, h8⟩ := rt_93 B n e p br base; exact ⟨h3, h4, h5, h6, h7, h8, fun _ => by omega⟩
  · obtain ⟨h1, h2, h3, h4, h5, h6, h7, h8⟩ := rt_123 B n e p br base; exact ⟨h3, h4, h5, h6, h7, h8, fun h => by rw [h1] at h ⊢; split at h <;> omega⟩
  · obtain ⟨h1, h2, h3, h4, h5, h6, h7, h8⟩ := rt_125 B n e p br base; exact ⟨h3, h4, h5, h6, h7, h8, fun h => by rw [h1] at h ⊢; split at h <;> omega⟩
  · obtain ⟨h1, h2, h3, h4, h5, h6, h7, h8⟩ := rt_41 B n e p br base; exact ⟨h3, h4, h5, h6, h7, h8, fun h => by omega⟩
  · obtain ⟨h1, h2, h3, h4, h5, h6, h7, h8⟩ := rt_62 B n e p br base
    have hg := grA_C B n e p
    exact ⟨h3, h4, h5, h6, h7, h8, fun h => by omega⟩
theorem RdG_br (hc : c = 91 ∨ c = 93 ∨ c = 123 ∨ c = 125 ∨ c = 41 ∨ c = 62) (h0 : 0 < rtN B n e p br c) : RdG B n e p c base (rtN B n e p br c) nw nb ns nrw nir nr t yi yd := by
  obtain ⟨h1, h2, h3, h4, h5, h6, h7⟩ := br_all (B := B) (n := n) (e := e) (p := p) (base := base) (br := br) hc
  have hk := h7 h0
  exact RdG_o (Or.inr (Or.inr (Or.inr hk))) (by rw [if_pos hk.1]; exact h2.symm) h3 (fun h => by omega) (fun _ => h4) h5 h6
theorem RdG_sl (h0 : 0 < rtA (we B n (slS B n p)) n e (slS B n p) (slK B n p)) (g : nw = we B n (slS B n p) - slS B n p ∧ TY t ns (wL B (slS B n p) (we B n (slS B n p) - slS B n p).toNat)) : RdG B n e p 47 base (rtA (we B n (slS B n p)) n e (slS B n p) (slK B n p)) nw nb ns nrw nir nr t yi yd := by
  obtain ⟨h1, h2, h3, h4, h5, h6, h7, h8⟩ := rt_47 B n e p 0 base
  obtain ⟨k1, k2⟩ := rtA_kind h0
  have k3 : slK B n p = 5 ∨ slK B n p = 4 := by unfold slK; split <;> simp
  have hl := g.2.1
  rw [wL_len] at hl
  exact RdG_o (by omega) (by rw [if_neg (by omega), h4]; exact g.1) h5 (fun _ => ⟨by rw [h6]; exact g.2, by omega⟩) (fun h => by omega) h7 h8
theorem RdG_rd (hz : z = stA e (rdS B n (p + 1) 1 [])) (h0 : 0 < z) (g : z = 6 → nw = ((rdS B n (p + 1) 1 []).2.2.length : Int) ∧ TY t ns (rdS B n (p + 1) 1 []).2.2) : RdG B n e p 40 base z nw nb ns nrw nir nr t yi yd := by
  obtain ⟨h1, h2, h3, h4, h5, h6, h7, h8⟩ := rt_40 B n e p 0 base
  have k := stA_6 hz h0
  have g9 := g k
  have hl := TY_400 (hz.symm.trans k) rfl
  have hl2 := g9.2.1
  exact RdG_o (by omega) (by rw [if_neg (by omega), h4]; exact g9.1) h5 (fun _ => ⟨by rw [h6]; exact g9.2, by omega⟩) (fun h => by omega) h7 h8
theorem RdG_ls (hz : z = lsA B n e p) (h0 : 0 < z) (g : z = 6 → nw = lsW B n p ∧ TY t ns (lsO B n p)) : RdG B n e p 60 base z nw nb ns nrw nir nr t yi yd := by
  obtain ⟨h1, h2, h3, h4, h5, h6, h7, h8⟩ := rt_60 B n e p 0 base
  rcases ls_kind (hz ▸ h0) with ⟨k1, k2⟩ | ⟨k1, k2, k3, k4⟩
  · have hz11 : z = 11 := hz.trans k1
    exact RdG_o (by omega) (by rw [if_pos (by omega), h4]; unfold lsW; rw [if_pos k2]) h5 (fun h => by omega) (fun _ => by rw [h6]; unfold lsO; rw [if_pos k2]) h7 h8
  · have hz6 : z = 6 := hz.trans k1
    have g9 := g hz6
    have hl := TY_400 k3 k2
    have hl2 := g9.2.1
    exact RdG_o (by omega) (by rw [if_neg (by omega), h4]; exact g9.1) h5 (fun _ => ⟨by rw [h6]; exact g9.2, by omega⟩) (fun h => by omega) h7 h8
/-- what keep makes of it -/
theorem kp_all {wh2 sg2 row2 base2 ror2 : Int} {re2 : UInt64} {tx2 : Nat → Nat} {xi2 : Nat → Int} {xd2 : Nat → UInt64} (h0 : 0 < z) (G : RdG B n e p c base z nw nb ns nrw nir nr t yi yd)
    (k1 : wh2 = (if z = 2 ∨ (7 ≤ z ∧ z ≤ 12) then 0 else nw)) (k2 : re2 = (if z = 2 then nr else FP.dconst0)) (k3 : sg2 = (if 3 ≤ z ∧ z ≤ 6 then ns else 0)) (k4 : ∀ j : Nat, (j : Int) < sg2 → tx2 j = t j) (k5 : ∀ j, tx2 j < 256) (k6 : row2 = (if z = 16 then nrw else 0)) (k7 : ∀ j : Int, 0 ≤ j → j < row2 → xi2 j.toNat = yi j.toNat ∧ xd2 j.toNat = yd j.toNat) (k8 : base2 = (if z = 1 ∧ 0 < nb then nb else base)) (k9 : ror2 = nir) :
    wh2 = rtW B n e p c ∧ re2 = rtR B n e p c ∧ (TY tx2 sg2 (rtO B n e p c) ∧ sg2 ≤ 400) ∧ row2 = rtL B n p c ∧ (0 ≤ row2 ∧ row2 ≤ 60) ∧ (∀ j : Int, 0 ≤ j → j < row2 → (rwR (bA B n (p + 1)) → xd2 j.toNat = rwD B n (p + 4) (bA B n (p + 1)) j) ∧ (¬ rwR (bA B n (p + 1)) → xi2 j.toNat = rwZ B n (p + 4) (bA B n (p + 1)) j)) ∧ (0 < row2 → ror2 = tf (rwR (bA B n (p + 1)))) ∧ base2 = rtB B n e p c base := by
  obtain ⟨g1, g2, g3, g4, g5, g6, g7⟩ := G
  refine ⟨k1.trans g1, k2.trans g2, ?_, k6.trans g5.symm, ?_, ?_, ?_, k8.trans g7⟩
  · by_cases h : 3 ≤ z ∧ z ≤ 6
    · obtain ⟨⟨a1, a2, a3⟩, a4⟩ := g3 h
      rw [if_pos h] at k3
      exact ⟨⟨by omega, fun j hj hj4 => by rw [k4 j (by omega)]; exact a2 j hj hj4, k5⟩, by omega⟩
    · rw [if_neg h] at k3
      rw [g4 h, k3]
      exact ⟨TY_0 k5, by decide⟩
  · by_cases h : z = 16
    · have := g6 h; rw [if_pos h] at k6; omega
    · rw [if_neg h] at k6; omega
  · intro j h1 h2
    by_cases h : z = 16
    · have a := (g6 h).2.2.2 j h1 (by rw [if_pos h] at k6; omega)
      have b := k7 j h1 h2
      exact ⟨fun q => b.2.trans (a.1 q), fun q => b.1.trans (a.2 q)⟩
    · rw [if_neg h] at k6; omega
  · intro h9
    by_cases h : z = 16
    · exact k9.trans (g6 h).2.2.1
    · rw [if_neg h] at k6; omega
end RD3
/-- a byte as a number with its sign -/
def sg8 (n : Nat) : Int := if n < 128 then (n : Int) else (n : Int) - 256
theorem sb_sg {n : Nat} (h : n < 256) : sb n = iI (sg8 n) := by
  have : ∀ k, k < 256 → sb k = iI (sg8 k) := by decide +kernel
  exact this n h
theorem sg8_R (n : Nat) (h : n < 256) : -128 ≤ sg8 n ∧ sg8 n < 128 := by unfold sg8; split <;> omega
theorem sg8_nar {n : Nat} (h : n < 256) : narrow .byte (.int (iI (sg8 n))) = .int (iI (sg8 n)) := by
  have : ∀ k, k < 256 → narrow .byte (.int (iI (sg8 k))) = .int (iI (sg8 k)) := by decide +kernel
  exact this n h
theorem wBs_36 {B : Nat → Nat} {n e p : Int} (h : wdA B n e p = 1) : 0 ≤ wBs (wd B p (we B n p)) (we B n p - p) ∧ wBs (wd B p (we B n p)) (we B n p - p) ≤ 36 := by
  unfold wdA at h
  split at h
  · omega
  · split at h
    · omega
    · unfold wBs
      unfold wA at h
      split at h
      · rw [if_pos (by assumption)]; decide
      · rw [if_neg (by assumption)]
        split at h
        · have := rrA_c (wd B p (we B n p)) (we B n p - p); omega
        · unfold rbA at h
          split at h
          · rename_i h5; have := h5.2.2.2.1; have := h5.2.2.2.2.1; omega
          · omega
theorem kp_t {t tx : Nat → Nat} {q : Int} (hq : 0 ≤ q) (h : ∀ j : Nat, (j : Int) < q → tx j = t j) : ∀ j : Nat, (j : Int) < q + 1 → uB tx q.toNat (t q.toNat) j = t j := by
  intro j hj
  unfold uB
  by_cases c : j = q.toNat
  · rw [if_pos c, c]
  · rw [if_neg c]; exact h j (by omega)
theorem kp_r {qi xi : Nat → Int} {qd xd : Nat → UInt64} {q : Int} (hq : 0 ≤ q) (h : ∀ j : Int, 0 ≤ j → j < q → xi j.toNat = qi j.toNat ∧ xd j.toNat = qd j.toNat) : ∀ j : Int, 0 ≤ j → j < q + 1 → uI xi q.toNat (qi q.toNat) j.toNat = qi j.toNat ∧ uD xd q.toNat (qd q.toNat) j.toNat = qd j.toNat := by
  intro j a b
  unfold uI uD
  by_cases c : j.toNat = q.toNat
  · rw [if_pos c, if_pos c, c]; exact ⟨rfl, rfl⟩
  · rw [if_neg c, if_neg c]; exact h j a (by omega)
