/-! the reference's ROWS and BINARY TOKENS -/
theorem rg_D {B : Nat → Nat} {n i f k : Int} {ri : Nat → Int} {rd : Nat → UInt64} {u : UInt64} (hk : 0 ≤ k) (hr : rwR f) (h : ∀ j : Int, 0 ≤ j → j < k → (rwR f → rd j.toNat = rwD B n i f j) ∧ (¬ rwR f → ri j.toNat = rwZ B n i f j)) (hu : u = rwD B n i f k) : ∀ j : Int, 0 ≤ j → j < k + 1 → (rwR f → uD rd k.toNat u j.toNat = rwD B n i f j) ∧ (¬ rwR f → ri j.toNat = rwZ B n i f j) := by
  intro j h1 h2
  refine ⟨fun _ => ?_, fun c => absurd hr c⟩
  unfold uD
  by_cases c : j = k
  · subst c; rw [if_pos rfl]; exact hu
  · rw [if_neg (by omega)]; exact (h j h1 (by omega)).1 hr
theorem rg_Z {B : Nat → Nat} {n i f k : Int} {ri : Nat → Int} {rd : Nat → UInt64} {v : Int} (hk : 0 ≤ k) (hr : ¬ rwR f) (h : ∀ j : Int, 0 ≤ j → j < k → (rwR f → rd j.toNat = rwD B n i f j) ∧ (¬ rwR f → ri j.toNat = rwZ B n i f j)) (hv : v = rwZ B n i f k) : ∀ j : Int, 0 ≤ j → j < k + 1 → (rwR f → rd j.toNat = rwD B n i f j) ∧ (¬ rwR f → uI ri k.toNat v j.toNat = rwZ B n i f j) := by
  intro j h1 h2
  refine ⟨fun c => absurd c hr, fun _ => ?_⟩
  unfold uI
  by_cases c : j = k
  · subst c; rw [if_pos rfl]; exact hv
  · rw [if_neg (by omega)]; exact (h j h1 (by omega)).2 hr
theorem rwZ_of {B : Nat → Nat} {n i f k w lf : Int} (hw : w = wO f) (hl : lf = lfO f) : nmb B n (i + k * w) w lf = rwZ B n i f k := by
  subst hw; subst hl; rfl
theorem rwD_fl {B : Nat → Nat} {n i f k w lf : Int} (hw : w = wO f) (hl : lf = lfO f) (h : f % 128 = 48) : flV (nmb B n (i + k * w) 4 lf) = rwD B n i f k := by
  have h4 : w = 4 := by have := wO_C f; omega
  have e := rwZ_of (B := B) (n := n) (i := i) (k := k) hw hl
  unfold rwD
  rw [if_pos h, ← e, h4]
theorem rwD_fx {B : Nat → Nat} {n i f k w lf y : Int} (hw : w = wO f) (hl : lf = lfO f) (h : ¬ f % 128 = 48) (hz : R32 (nmb B n (i + k * w) w lf)) (hy : y = f % 32) : FP.ddiv (FP.l2d (lI (nmb B n (i + k * w) w lf))) (scl FP.dconst1 4611686018427387904 y) = rwD B n i f k := by
  have e := rwZ_of (B := B) (n := n) (i := i) (k := k) hw hl
  rw [fx_div hz (by omega)]
  unfold rwD fxV
  rw [if_neg h, ← e, hy]
theorem in_step {B : Nat → Nat} {n i f k x x2 w lf : Int} (hk : 0 ≤ k) (hw : w = wO f) (hl : lf = lfO f) (h : f % 128 = 48) (hx : x = infC B n i f k.toNat) (h2 : x2 = (if x = 1 ∨ eb (nmb B n (i + k * w) 4 lf) = 255 then 1 else 0)) : x2 = infC B n i f (k + 1).toNat := by
  have h4 : w = 4 := by have := wO_C f; omega
  have e := rwZ_of (B := B) (n := n) (i := i) (k := k) hw hl
  rw [infC_s hk, ← hx, ← e, h2, h4]
theorem nuA_v (n e q : Int) : (q ≤ n ∧ nuA n e q (-99) = -99) ∨ (n < q ∧ (nuA n e q (-99) = 0 ∨ nuA n e q (-99) = -7)) := by
  unfold nuA; (repeat' split) <;> omega
theorem nuA_99 (n e q : Int) : (if nuA n e q (-99) = -99 then 1 else nuA n e q (-99)) = nuA n e q 1 := by
  unfold nuA
  by_cases h : q ≤ n
  · rw [if_pos h, if_pos h, if_pos rfl]
  · rw [if_neg h, if_neg h]; split <;> split <;> first | rfl | omega
theorem nuA_91 {n e q : Int} (h : 0 < nuA n e q 1) : nuA n e q (-99) = -99 := by
  have h2 := nuA_pos h
  exact (nuA_y h2).symm
theorem nuA_90 {n e q : Int} (h : nuA n e q 1 ≠ 0) : nuA n e q (-99) ≠ 0 := by
  unfold nuA at h ⊢
  by_cases c : q ≤ n
  · rw [if_pos c]; decide
  · rw [if_neg c] at h ⊢; exact h
/-- what a BINARY TOKEN leaves to be kept -/
def BiG (B : Nat → Nat) (n p c z nw ns nrw nir : Int) (nr : UInt64) (t : Nat → Nat) (yi : Nat → Int) (yd : Nat → UInt64) : Prop :=
  (if z = 2 then 0 else nw) = biW B n p c ∧ (if z = 2 then nr else FP.dconst0) = biR B n p c ∧ (z = 6 → TY t ns (biO B n p c) ∧ ns ≤ 400) ∧ (¬ z = 6 → biO B n p c = []) ∧ biL B n p c = (if z = 16 then nrw else 0) ∧
  (z = 16 → 0 ≤ nrw ∧ nrw ≤ 60 ∧ nir = tf (rwR (bA B n (p + 1))) ∧ ∀ j : Int, 0 ≤ j → j < nrw → (rwR (bA B n (p + 1)) → yd j.toNat = rwD B n (p + 4) (bA B n (p + 1)) j) ∧ (¬ rwR (bA B n (p + 1)) → yi j.toNat = rwZ B n (p + 4) (bA B n (p + 1)) j))
section BIG
variable {B : Nat → Nat} {n p z nw ns nrw nir c : Int} {nr : UInt64} {t : Nat → Nat} {yi : Nat → Int} {yd : Nat → UInt64}
theorem BiG_1 (hz : z = 1 ∨ z = 13 ∨ z = 14 ∨ z = 15) (hw : nw = biW B n p c) (hr : biR B n p c = FP.dconst0) (ho : biO B n p c = []) (hl : biL B n p c = 0) : BiG B n p c z nw ns nrw nir nr t yi yd := by
  refine ⟨?_, ?_, fun h => ?_, fun _ => ho, ?_, fun h => ?_⟩
  · rw [if_neg (by omega)]; exact hw
  · rw [if_neg (by omega)]; exact hr.symm
  · omega
  · rw [if_neg (by omega)]; exact hl
  · omega
theorem BiG_2 (hz : z = 2) (hw : biW B n p c = 0) (hr : nr = biR B n p c) (ho : biO B n p c = []) (hl : biL B n p c = 0) : BiG B n p c z nw ns nrw nir nr t yi yd := by
  refine ⟨?_, ?_, fun h => ?_, fun _ => ho, ?_, fun h => ?_⟩
  · rw [if_pos hz]; exact hw.symm
  · rw [if_pos hz]; exact hr
  · omega
  · rw [if_neg (by omega)]; exact hl
  · omega
theorem BiG_6 (hz : z = 6) (hw : nw = biW B n p c) (hr : biR B n p c = FP.dconst0) (ho : TY t ns (biO B n p c) ∧ ns ≤ 400) (hl : biL B n p c = 0) : BiG B n p c z nw ns nrw nir nr t yi yd := by
  refine ⟨?_, ?_, fun _ => ho, fun h => ?_, ?_, fun h => ?_⟩
  · rw [if_neg (by omega)]; exact hw
  · rw [if_neg (by omega)]; exact hr.symm
  · omega
  · rw [if_neg (by omega)]; exact hl
  · omega
end BIG
theorem sbA_le {B : Nat → Nat} {n e p w lf : Int} (h : sbA B n e p w lf = 6) : sbM B n p w lf ≤ 400 := by
  unfold sbA nuA at h
  split at h
  · split at h
    · split at h <;> omega
    · split at h <;> omega
  · split at h <;> omega
theorem TY_le {t : Nat → Nat} {ns : Int} {o : List Nat} (h : TY t ns o) : ns = (o.length : Int) := h.1
/-- the place of the next TOKEN, as the reference looks for it -/
theorem fw_w {B : Nat → Nat} {n i : Int} (h : i < n) (hw : isW (bA B n i)) : fw B n i 0 = fw B n (i + 1) 0 := by
  have e : cmt 0 (bA B n i) = 0 := by unfold cmt; rw [if_pos rfl, if_neg (by omega)]
  rw [fw_s h, e, if_neg (fun q => q.2 hw)]
theorem fw_c {B : Nat → Nat} {n i : Int} (h : i < n) (hc : bA B n i = 37) : fw B n i 0 = fw B n i 1 := by
  have e : cmt 0 (bA B n i) = 1 := by unfold cmt; rw [if_pos rfl, if_pos hc]
  have e2 : cmt 1 (bA B n i) = 1 := by unfold cmt; rw [if_neg (by decide), if_neg (by omega)]
  rw [fw_s h, fw_s h, e, e2]
theorem fw_1 {B : Nat → Nat} {n i : Int} (h : i < n) (hc : ¬ (bA B n i = 10 ∨ bA B n i = 12 ∨ bA B n i = 13)) : fw B n i 1 = fw B n (i + 1) 1 := by
  have e2 : cmt 1 (bA B n i) = 1 := by unfold cmt; rw [if_neg (by decide), if_neg hc]
  rw [fw_s h, e2, if_neg (by omega)]
theorem fw_e {B : Nat → Nat} {n i : Int} (h : n ≤ i ∨ (bA B n i = 10 ∨ bA B n i = 12 ∨ bA B n i = 13)) : fw B n i 1 = fw B n i 0 := by
  by_cases c : n ≤ i
  · rw [fw_out c, fw_out c]
  · have hb := h.resolve_left c
    have e2 : cmt 1 (bA B n i) = 0 := by unfold cmt; rw [if_neg (by decide), if_pos hb]
    have e : cmt 0 (bA B n i) = 0 := by unfold cmt; rw [if_pos rfl, if_neg (by omega)]
    have h1 : i < n := by omega
    rw [fw_s (c := 1) h1, fw_s (c := 0) h1, e, e2]
theorem fw_n {B : Nat → Nat} {n i : Int} (h : i ≤ n) (hw : ¬ isW (bA B n i)) (hc : ¬ bA B n i = 37) : fw B n i 0 = i := by
  by_cases c : n ≤ i
  · rw [fw_out c]; omega
  · have e : cmt 0 (bA B n i) = 0 := by unfold cmt; rw [if_pos rfl, if_neg hc]
    rw [fw_s (by omega), e, if_pos ⟨rfl, hw⟩]
theorem tf_of {c : Prop} [Decidable c] {x : Int} (h : (c ∧ x = 1) ∨ (¬ c ∧ x = 0)) : x = tf c := by
  rcases h with h | h
  · rw [h.2]; exact (tf_t h.1).symm
  · rw [h.2]; exact (tf_f h.1).symm
theorem in_0 {B : Nat → Nat} {n i f x : Int} (h : x = 0) : (f % 128 = 48 ∧ x = infC B n i f (Int.toNat 0)) ∨ (¬ f % 128 = 48 ∧ x = 0) := by
  by_cases c : f % 128 = 48
  · exact Or.inl ⟨c, h⟩
  · exact Or.inr ⟨c, h⟩
