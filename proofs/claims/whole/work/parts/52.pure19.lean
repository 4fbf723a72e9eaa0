/-! the reference's STRINGS, step by step -/
theorem dg8C (c : Int) : (48 ≤ c ∧ c ≤ 55 ∧ dg c = c - 48) ∨ (¬ (48 ≤ c ∧ c ≤ 55) ∧ 8 ≤ dg c) := by
  unfold dg; (repeat' split) <;> omega
theorem pe_crlf {B : Nat → Nat} {n i : Int} (h : bA B n i = 13) (h2 : bA B n (i + 1) = 10) : peW B n i = 2 ∧ peO B n i = [] := by
  have e : lw B n i = 2 := by unfold lw; rw [if_pos h, if_pos h2]
  unfold peW peO; rw [e]; exact ⟨rfl, rfl⟩
theorem pe_cr {B : Nat → Nat} {n i : Int} (h : bA B n i = 13) (h2 : ¬ bA B n (i + 1) = 10) : peW B n i = 1 ∧ peO B n i = [] := by
  have e : lw B n i = 1 := by unfold lw; rw [if_pos h, if_neg h2]
  unfold peW peO; rw [e]; exact ⟨rfl, rfl⟩
theorem pe_lf {B : Nat → Nat} {n i : Int} (h : bA B n i = 10) : peW B n i = 1 ∧ peO B n i = [] := by
  have e : lw B n i = 1 := by unfold lw; rw [if_neg (by omega), if_pos h]
  unfold peW peO; rw [e]; exact ⟨rfl, rfl⟩
theorem lw_no {B : Nat → Nat} {n i : Int} (h : ¬ bA B n i = 13) (h2 : ¬ bA B n i = 10) : ¬ 0 < lw B n i := by
  unfold lw; rw [if_neg h, if_neg h2]; decide
theorem pe_oc {B : Nat → Nat} {n i q : Int} (h : ¬ bA B n i = 13) (h2 : ¬ bA B n i = 10) (hq : q = oc B n i) (h3 : 0 < q) : peW B n i = q ∧ peO B n i = [by8 (ov B n i q)] := by
  subst hq
  unfold peW peO; rw [if_neg (lw_no h h2), if_pos h3, if_neg (lw_no h h2), if_pos h3]; exact ⟨rfl, rfl⟩
theorem pe_es {B : Nat → Nat} {n i : Int} (h : ¬ bA B n i = 13) (h2 : ¬ bA B n i = 10) (h3 : 8 ≤ dg (bA B n i)) : peW B n i = 1 ∧ peO B n i = [by8 (es (bA B n i))] := by
  have e : ¬ 0 < oc B n i := by unfold oc; rw [if_neg (by omega)]; decide
  unfold peW peO; rw [if_neg (lw_no h h2), if_neg e, if_neg (lw_no h h2), if_neg e]; exact ⟨rfl, rfl⟩
theorem ov_of {B : Nat → Nat} {n i q v : Int} (h : (q = 1 ∧ v = dg (bA B n i)) ∨ (q = 2 ∧ v = dg (bA B n i) * 8 + dg (bA B n (i + 1))) ∨ (q = 3 ∧ v = (dg (bA B n i) * 8 + dg (bA B n (i + 1))) * 8 + dg (bA B n (i + 2)))) : ov B n i q = v := by
  unfold ov; (repeat' split) <;> omega
theorem oc_in {B : Nat → Nat} {n i q : Int} (h1 : 1 ≤ q ∧ q ≤ 3) (h2 : dg (bA B n i) < 8 ∧ (q = 1 ∨ dg (bA B n (i + 1)) < 8) ∧ (q ≤ 2 ∨ dg (bA B n (i + 2)) < 8)) (h3 : 3 ≤ q ∨ 8 ≤ dg (bA B n (i + q))) : q = oc B n i :=
  oc_of (by omega) ⟨fun _ => h2.1, fun _ => by omega, fun _ => by omega⟩ (fun _ => by omega)
/-- the bytes that an escape takes have come -/
theorem pe_in {B : Nat → Nat} {n i : Int} (h : 0 ≤ i ∧ i < n) : i + peW B n i ≤ n := by
  have o1 : n ≤ i + 1 → bA B n (i + 1) = -1 := fun c => bA_out (by omega)
  have o2 : n ≤ i + 2 → bA B n (i + 2) = -1 := fun c => bA_out (by omega)
  have hl : i + lw B n i ≤ n := by
    unfold lw; (repeat' split) <;> omega
  have ho : i + oc B n i ≤ n := by
    have d1 := dg8C (bA B n (i + 1))
    have d2 := dg8C (bA B n (i + 2))
    unfold oc; (repeat' split) <;> omega
  unfold peW; (repeat' split) <;> omega
theorem rd_92 {B : Nat → Nat} {n i op : Int} {o : List Nat} (h : i < n) (hc : bA B n i = 92) (hp : ¬ op = 0) : rdS B n i op o = rdS B n (i + 1 + peW B n (i + 1)) op (o ++ peO B n (i + 1)) := by
  rw [rdS_s h, hc, show opn 92 op = op from rfl, if_neg hp]
  unfold poW poO
  rw [if_pos rfl, if_pos rfl, show i + (1 + peW B n (i + 1)) = i + 1 + peW B n (i + 1) by omega]
theorem rd_92e {B : Nat → Nat} {n i op : Int} {o : List Nat} (h : i < n) (h2 : n ≤ i + 1) (hc : bA B n i = 92) (hp : ¬ op = 0) : rdS B n i op o = rdS B n (i + 1) op o := by
  have hR := peW_R B n (i + 1)
  rw [rd_92 h hc hp, rdS_out (by omega), rdS_out (by omega)]
theorem rd_crlf {B : Nat → Nat} {n i op : Int} {o : List Nat} (h : i < n) (hc : bA B n i = 13) (h2 : bA B n (i + 1) = 10) (hp : ¬ op = 0) : rdS B n i op o = rdS B n (i + 1 + 1) op (o ++ [by8 10]) := by
  have e : lw B n i = 2 := by unfold lw; rw [if_pos hc, if_pos h2]
  rw [rdS_s h, hc, show opn 13 op = op from rfl, if_neg hp]
  unfold poW poO
  rw [e]
  show rdS B n (i + 2) op (o ++ [10]) = _
  rw [show i + 2 = i + 1 + 1 by omega]; rfl
theorem rd_cr {B : Nat → Nat} {n i op : Int} {o : List Nat} (h : i < n) (hc : bA B n i = 13) (h2 : ¬ bA B n (i + 1) = 10) (hp : ¬ op = 0) : rdS B n i op o = rdS B n (i + 1) op (o ++ [by8 10]) := by
  have e : lw B n i = 1 := by unfold lw; rw [if_pos hc, if_neg h2]
  rw [rdS_s h, hc, show opn 13 op = op from rfl, if_neg hp]
  unfold poW poO
  rw [e]
  show rdS B n (i + 1) op (o ++ [10]) = _
  rfl
theorem rd_o {B : Nat → Nat} {n i op op' : Int} {o : List Nat} (h : i < n) (hc : ¬ bA B n i = 13) (h2 : ¬ bA B n i = 92) (he : opn (bA B n i) op = op') (hp : ¬ op' = 0) : rdS B n i op o = rdS B n (i + 1) op' (o ++ [by8 (bA B n i)]) := by
  subst he
  rw [rdS_s h, if_neg hp]
  unfold poW poO
  rw [if_neg h2, if_neg h2]
  by_cases c : bA B n i = 10
  · have e : lw B n i = 1 := by unfold lw; rw [if_neg hc, if_pos c]
    rw [e, if_pos (by decide), if_pos (by decide), c]; rfl
  · have e : ¬ 0 < lw B n i := by unfold lw; rw [if_neg hc, if_neg c]; decide
    rw [if_neg e, if_neg e]
theorem rd_end {B : Nat → Nat} {n i op op' : Int} {o : List Nat} (h : i < n) (he : opn (bA B n i) op = op') (hp : op' = 0) : rdS B n i op o = (1, i + 1, o) := by
  rw [rdS_s h, he, if_pos hp]
theorem stY_1 {e x ns : Int} {t : Nat → Nat} {o : List Nat} {r : SR} (hr : r = (1, x, o)) (h : TY t ns o) : (if 400 < ns then -2 else 6) = stA e r := by
  subst hr
  show _ = if 400 < (o.length : Int) then (-2 : Int) else 6
  rw [h.1]
theorem stY_6 {x ns : Int} {t : Nat → Nat} {o : List Nat} {r : SR} (hr : r = (1, x, o)) (h : TY t ns o) : ns = (r.2.2.length : Int) ∧ TY t ns r.2.2 := by
  subst hr; exact ⟨h.1, h⟩
theorem lI_tn (z : Int) : (lI z).toBitVec.toNat = (z % 18446744073709551616).toNat := by
  show (Int64.ofInt z).toBitVec.toNat = _
  rw [Int64.toBitVec_ofInt, BitVec.toNat_ofInt]; rfl
theorem land255 (z : Int) : lI z &&& lI 255 = lI (z % 256) := by
  apply Int64.toBitVec_inj.mp
  apply BitVec.eq_of_toNat_eq
  rw [Int64.toBitVec_and, BitVec.toNat_and, lI_tn, lI_tn, lI_tn, show ((255 : Int) % 18446744073709551616).toNat = 2 ^ 8 - 1 by decide, Nat.and_two_pow_sub_one_eq_mod]
  omega
theorem land8388607 (z : Int) : lI z &&& lI 8388607 = lI (z % 8388608) := by
  apply Int64.toBitVec_inj.mp
  apply BitVec.eq_of_toNat_eq
  rw [Int64.toBitVec_and, BitVec.toNat_and, lI_tn, lI_tn, lI_tn, show ((8388607 : Int) % 18446744073709551616).toNat = 2 ^ 23 - 1 by decide, Nat.and_two_pow_sub_one_eq_mod]
  omega
theorem hiL_len (g : Int) : ∀ k, (hiL g k).length = k
  | 0 => rfl
  | k + 1 => by rw [hiL, List.length_append, hiL_len g k]; rfl
theorem sm_step {t : Nat → Nat} {m g q : Int} {o : List Nat} (hq : 0 ≤ q) (h : TY t m ((o ++ hiL g q.toNat) ++ [by8 (g / 2 ^ (24 - 8 * q.toNat) % 256)])) : TY t m (o ++ hiL g (q + 1).toNat) := by
  rw [show (q + 1).toNat = q.toNat + 1 by omega]
  rw [by8_mod, List.append_assoc] at h
  exact h
theorem sm_end {t : Nat → Nat} {m g q c : Int} {o : List Nat} (h1 : 0 ≤ q ∧ q ≤ c) (h2 : c ≤ q) (h : TY t m (o ++ hiL g q.toNat)) : TY t m (o ++ hiL g c.toNat) := by
  rw [show c.toNat = q.toNat by omega]; exact h
theorem stF_1 (n x : Int) (o : List Nat) : stF n (1, x, o) = x := rfl
