/-! both sides together: where a read TOKEN ends, and what one call leaves equal -/
def SRr (n i : Int) (r : SR) : Prop := (r.1 = 0 ∨ r.1 = 1 ∨ r.1 = 2) ∧ (r.1 = 1 → i < r.2.1 ∧ r.2.1 ≤ n) ∧ (r.1 = 2 → i ≤ r.2.1 ∧ r.2.1 < n)
theorem SRr_mono {n i j : Int} {r : SR} (h : i ≤ j) (H : SRr n j r) : SRr n i r := ⟨H.1, fun q => by have := H.2.1 q; omega, fun q => by have := H.2.2 q; omega⟩
theorem SRr_0 (n i : Int) : SRr n i (0, 0, []) := ⟨Or.inl rfl, fun h => absurd h (by decide), fun h => absurd h (by decide)⟩
theorem SRr_1 {n i x : Int} (o : List Nat) (h : i < x ∧ x ≤ n) : SRr n i (1, x, o) := ⟨Or.inr (Or.inl rfl), fun _ => h, fun q => absurd q (show ¬ (1:Int) = 2 by decide)⟩
theorem SRr_2 {n i x : Int} (o : List Nat) (h : i ≤ x ∧ x < n) : SRr n i (2, x, o) := ⟨Or.inr (Or.inr rfl), fun q => absurd q (show ¬ (2:Int) = 1 by decide), fun _ => h⟩
section RNG
variable {B : Nat → Nat} {n : Int}
theorem rdF_R : ∀ (k : Nat) (i op : Int) (o : List Nat), SRr n i (rdF B n k i op o)
  | 0, i, op, o => SRr_0 n i
  | k + 1, i, op, o => by
    simp only [rdF]
    split
    · split
      · exact SRr_1 o (by omega)
      · have hR := poW_R B n i (bA B n i)
        exact SRr_mono (by omega) (rdF_R k _ _ _)
    · exact SRr_0 n i
theorem rdS_R (i op : Int) (o : List Nat) : SRr n i (rdS B n i op o) := rdF_R _ i op o
theorem hxS_R : ∀ (k : Nat) (i hi : Int) (o : List Nat), (n - i).toNat = k → SRr n i (hxS B n i hi o)
  | 0, i, hi, o, hk => by rw [hxS_out (by omega)]; exact SRr_0 n i
  | k + 1, i, hi, o, hk => by
    rw [hxS_s (by omega)]
    split
    · exact SRr_mono (by omega) (hxS_R k (i + 1) _ _ (by omega))
    · split
      · exact SRr_1 _ (by omega)
      · split
        · exact SRr_2 _ (by omega)
        · split
          · exact SRr_mono (by omega) (hxS_R k (i + 1) _ _ (by omega))
          · exact SRr_mono (by omega) (hxS_R k (i + 1) _ _ (by omega))
theorem bA_lt {i : Int} (h : ¬ bA B n i = -1) : 0 ≤ i ∧ i < n := by
  by_cases c : 0 ≤ i ∧ i < n
  · exact c
  · exact absurd (bA_out c) h
theorem e5E_R (i g q : Int) (o : List Nat) (h : i < n) : SRr n i (e5E B n i g q o) := by
  unfold e5E
  split
  · exact SRr_2 _ (by omega)
  · split
    · exact SRr_0 n i
    · rename_i h2
      have := bA_lt h2
      split
      · exact SRr_1 _ (by omega)
      · exact SRr_2 _ (by omega)
theorem e5S_R : ∀ (k : Nat) (i g q : Int) (o : List Nat), (n - i).toNat = k → SRr n i (e5S B n i g q o)
  | 0, i, g, q, o, hk => by rw [e5S_out (by omega)]; exact SRr_0 n i
  | k + 1, i, g, q, o, hk => by
    rw [e5S_s (by omega)]
    split
    · exact SRr_mono (by omega) (e5S_R k (i + 1) _ _ _ (by omega))
    · split
      · exact e5E_R i g q o (by omega)
      · split
        · exact SRr_mono (by omega) (e5S_R k (i + 1) _ _ _ (by omega))
        · split
          · exact SRr_2 _ (by omega)
          · split
            · exact SRr_2 _ (by omega)
            · split
              · exact SRr_mono (by omega) (e5S_R k (i + 1) _ _ _ (by omega))
              · exact SRr_mono (by omega) (e5S_R k (i + 1) _ _ _ (by omega))
theorem stF_R {i : Int} {r : SR} (hi : 0 ≤ i ∧ i ≤ n) (h : SRr n i r) : 0 ≤ stF n r ∧ stF n r ≤ n := by
  obtain ⟨h0, h1, h2⟩ := h
  unfold stF
  rcases h0 with e | e | e
  · rw [if_pos e]; omega
  · have := h1 e; rw [if_neg (by omega), if_pos e]; omega
  · have := h2 e; rw [if_neg (by omega), if_neg (by omega)]; omega
theorem ite_R {c : Prop} [Decidable c] {a b : Int} (ha : 0 ≤ a ∧ a ≤ n) (hb : 0 ≤ b ∧ b ≤ n) : 0 ≤ (if c then a else b) ∧ (if c then a else b) ≤ n := by
  split
  · exact ha
  · exact hb
theorem lk_R {q : Int} (hn : 0 ≤ n) (h : 0 ≤ q) : 0 ≤ lkF n q ∧ lkF n q ≤ n := by
  unfold lkF; split <;> omega
theorem fxF_R {p : Int} (hp : 0 ≤ p ∧ p < n) : 0 ≤ fxF B n p ∧ fxF B n p ≤ n := by
  have h := wO_c (bA B n (p + 1))
  unfold fxF
  split
  · omega
  · split
    · omega
    · exact lk_R (by omega) (by omega)
theorem sbF_R {p w lf : Int} (hB : ∀ j, B j < 256) (hp : 0 ≤ p ∧ p < n) (hw : w = 1 ∨ w = 2) (hlf : lf = 0 ∨ lf = 1) : 0 ≤ sbF B n p w lf ∧ sbF B n p w lf ≤ n := by
  unfold sbF
  split
  · have hu : uR w (sbM B n p w lf) := uu_R hB (by omega) (by omega) hlf
    exact lk_R (by omega) (by omega)
  · omega
theorem rwF_R {p : Int} (hB : ∀ j, B j < 256) (hp : 0 ≤ p ∧ p < n) : 0 ≤ rwF B n p ∧ rwF B n p ≤ n := by
  unfold rwF
  split
  · omega
  · split
    · have hu := uu_R (B := B) (n := n) (i := p + 2) (w := 2) (lf := lfO (bA B n (p + 1))) hB (by omega) (by omega) (lfO_c _)
      have h8 : rwM B n p = uu B n (p + 2) 2 (lfO (bA B n (p + 1))) (2 : Int).toNat := rfl
      rw [← h8] at hu
      have hw := wO_c (bA B n (p + 1))
      have hm := m_w hw (by omega : 0 ≤ rwM B n p ∧ rwM B n p < 65536)
      refine lk_R (by omega) ?_
      unfold rwQ; omega
    · omega
theorem biF_R {p c : Int} (hB : ∀ j, B j < 256) (hp : 0 ≤ p ∧ p < n) : 0 ≤ biF B n p c ∧ biF B n p c ≤ n := by
  unfold biF
  repeat' (first
    | exact lk_R (by omega) (by omega)
    | exact fxF_R hp
    | exact sbF_R hB hp (by decide) (by decide)
    | exact rwF_R hB hp
    | refine ite_R ?_ ?_)
  all_goals omega
theorem lsF_R {p : Int} (hp : 0 ≤ p ∧ p < n) : 0 ≤ lsF B n p ∧ lsF B n p ≤ n := by
  unfold lsF
  split
  · omega
  · rename_i h
    have := bA_lt h
    split
    · omega
    · unfold lsR
      split
      · exact stF_R (i := p + 2) (by omega) (e5S_R _ _ _ _ _ rfl)
      · exact stF_R (i := p + 1) (by omega) (hxS_R _ _ _ _ rfl)
theorem grF_R {p : Int} (hp : 0 ≤ p ∧ p < n) : 0 ≤ grF B n p ∧ grF B n p ≤ n := by
  unfold grF
  split
  · rename_i h
    have := bA_lt (B := B) (n := n) (i := p + 1) (by omega); omega
  · omega
theorem weS_R {p : Int} (hp : 0 ≤ p ∧ p < n) : 0 ≤ we B n (slS B n p) ∧ we B n (slS B n p) ≤ n := by
  have h : p + 1 ≤ slS B n p ∧ slS B n p ≤ n := by
    unfold slS
    split
    · rename_i h
      have := bA_lt (B := B) (n := n) (i := p + 1) (by omega); omega
    · omega
  have := we_R (B := B) (n := n) _ (slS B n p) rfl h.2
  omega
theorem rtF_R {p c : Int} (hB : ∀ j, B j < 256) (hp : 0 ≤ p ∧ p < n) : 0 ≤ rtF B n p c ∧ rtF B n p c ≤ n := by
  have h1 : 0 ≤ p + 1 ∧ p + 1 ≤ n := by omega
  have hw := we_R (B := B) (n := n) _ p rfl (by omega)
  unfold rtF
  refine ite_R (biF_R hB hp) (ite_R (stF_R h1 (rdS_R _ _ _)) (ite_R h1 (ite_R (weS_R hp) (ite_R (lsF_R hp) (ite_R (grF_R hp) (ite_R h1 (ite_R h1 (ite_R h1 (ite_R h1 ?_)))))))))
  omega
theorem rt_10 {e p br c : Int} (h : rtN B n e p br c = 10) : ¬ br = 0 := by
  intro hb
  unfold rtN at h
  (repeat' split at h)
  · exact absurd h (biA_C B n e p c).2
  · have := stA_C e (rdS B n (p + 1) 1 []); omega
  · omega
  · have a := rtA_C (we B n (slS B n p)) n e (slS B n p) (slK B n p)
    have b : slK B n p = 5 ∨ slK B n p = 4 := by unfold slK; split <;> simp
    omega
  · have := lsA_C B n e p; omega
  · have := grA_C B n e p; omega
  · omega
  · omega
  · omega
  · omega
  · omega
  · have := wdA_C B n e p; omega
theorem nxS_n : nxS B n n = n := fw_out (Int.le_refl _)
end RNG
/-- the state of both: what the law's loop keeps -/
theorem nx_cv {B mB : Nat → Nat} {n e rd br mn me dn mdp : Int} (hmB : mB = B) (h1 : mn = n ∧ me = e ∧ mdp = br) (hS : nxS B n rd = nxS B n dn) : nxS mB mn dn = nxS B n rd ∧ nxK mB mn me dn mdp = nxK B n e rd br ∧ nxA mB mn me dn mdp = nxA B n e rd br := by
  obtain ⟨rfl, rfl, rfl⟩ := h1
  subst hmB
  refine ⟨hS.symm, ?_, ?_⟩
  · unfold nxK; rw [hS]
  · unfold nxA nxK; rw [hS]
def RowR (lrl mror : Int) (lrn xi : Nat → Int) (lrr xd : Nat → UInt64) : Prop := ∀ j : Int, 0 ≤ j → j < lrl → lrn j.toNat = (if mror = 1 then 0 else xi j.toNat) ∧ lrr j.toNat = (if mror = 1 then xd j.toNat else FP.dconst0)
theorem nxp_all {B mB : Nat → Nat} {n e rd br base mn me dn mdp mbase : Int} {rd2 lp2 wh2 len2 rl2 ror2 base2 br2 dn2 pl2 mwh2 sg2 row2 mror2 mbase2 dp2 : Int} {re2 mre2 : UInt64} {t2 tx2 : Nat → Nat} {rn2 xi2 bp bp2 opf op2 : Nat → Int} {rr2 xd2 : Nat → UInt64}
    (hB : ∀ j, B j < 256) (hmB : mB = B) (h1 : mn = n ∧ me = e ∧ mdp = br) (hb : mbase = base) (hrd : 0 ≤ rd ∧ rd ≤ n) (hbr : 0 ≤ br ∧ br ≤ 20) (hS : nxS B n rd = nxS B n dn) (hst : ¬ nxS B n rd = n) (hop : ∀ j : Nat, (j : Int) < br → bp j = opf j)
    (F0 : rd2 = rtF B n (nxS B n rd) (bA B n (nxS B n rd))) (F1 : lp2 = rtP B n (nxS B n rd) (bA B n (nxS B n rd)))
    (F2 : wh2 = rtW B n e (nxS B n rd) (bA B n (nxS B n rd)) ∧ re2 = rtR B n e (nxS B n rd) (bA B n (nxS B n rd)) ∧ TX t2 len2 (rtO B n e (nxS B n rd) (bA B n (nxS B n rd))) ∧ rl2 = rtL B n (nxS B n rd) (bA B n (nxS B n rd)) ∧ (0 ≤ rl2 ∧ rl2 ≤ 60) ∧ (∀ j : Int, 0 ≤ j → j < rl2 → rn2 j.toNat = rowN B n (nxS B n rd + 4) (bA B n (nxS B n rd + 1)) j ∧ rr2 j.toNat = rowD B n (nxS B n rd + 4) (bA B n (nxS B n rd + 1)) j) ∧ (0 < rl2 → ror2 = tf (rwR (bA B n (nxS B n rd + 1)))))
    (F3 : base2 = rtB B n e (nxS B n rd) (bA B n (nxS B n rd)) base) (F4 : br2 = (if nxK B n e rd br = 9 then br + 1 else if nxK B n e rd br = 10 then br - 1 else br)) (F5 : bp2 = (if nxK B n e rd br = 9 then uI bp br.toNat (nxS B n rd) else bp))
    (G0 : dn2 = rtF mB mn (nxS mB mn dn) (bA mB mn (nxS mB mn dn))) (G1 : pl2 = rtP mB mn (nxS mB mn dn) (bA mB mn (nxS mB mn dn)))
    (G2 : mwh2 = rtW mB mn me (nxS mB mn dn) (bA mB mn (nxS mB mn dn)) ∧ mre2 = rtR mB mn me (nxS mB mn dn) (bA mB mn (nxS mB mn dn)) ∧ (TY tx2 sg2 (rtO mB mn me (nxS mB mn dn) (bA mB mn (nxS mB mn dn))) ∧ sg2 ≤ 400) ∧ row2 = rtL mB mn (nxS mB mn dn) (bA mB mn (nxS mB mn dn)) ∧ (0 ≤ row2 ∧ row2 ≤ 60) ∧ (∀ j : Int, 0 ≤ j → j < row2 → (rwR (bA mB mn (nxS mB mn dn + 1)) → xd2 j.toNat = rwD mB mn (nxS mB mn dn + 4) (bA mB mn (nxS mB mn dn + 1)) j) ∧ (¬ rwR (bA mB mn (nxS mB mn dn + 1)) → xi2 j.toNat = rwZ mB mn (nxS mB mn dn + 4) (bA mB mn (nxS mB mn dn + 1)) j)) ∧ (0 < row2 → mror2 = tf (rwR (bA mB mn (nxS mB mn dn + 1)))) ∧ mbase2 = rtB mB mn me (nxS mB mn dn) (bA mB mn (nxS mB mn dn)) mbase)
    (G3 : dp2 = (if nxK mB mn me dn mdp = 9 then mdp + 1 else if nxK mB mn me dn mdp = 10 then mdp - 1 else mdp)) (G4 : op2 = (if nxK mB mn me dn mdp = 9 then uI opf mdp.toNat (nxS mB mn dn) else opf)) :
    (0 ≤ rd2 ∧ rd2 ≤ n) ∧ dn2 = rd2 ∧ pl2 = lp2 ∧ mwh2 = wh2 ∧ mre2 = re2 ∧ mbase2 = base2 ∧ dp2 = br2 ∧ (0 ≤ br2 ∧ br2 ≤ 20) ∧ row2 = rl2 ∧ (0 ≤ rl2 ∧ rl2 ≤ 60) ∧ (∃ O, TX t2 len2 O ∧ TY tx2 sg2 O ∧ sg2 ≤ 400) ∧ RowR rl2 mror2 rn2 xi2 rr2 xd2 ∧ (0 < rl2 → ror2 = mror2) ∧ (∀ j : Nat, (j : Int) < br2 → bp2 j = op2 j) := by
  have hcv := nx_cv hmB h1 hS
  obtain ⟨c1, c2, -⟩ := hcv
  rw [c1] at G0 G1 G2 G4
  rw [c2] at G3 G4
  obtain ⟨rfl, rfl, rfl⟩ := h1
  subst hmB
  subst hb
  obtain ⟨f1, f2, f3, f4, f5, f6, f7⟩ := F2
  obtain ⟨g1, g2, g3, g4, g5, g6, g7, g8⟩ := G2
  have hSR : rd ≤ nxS mB mn rd ∧ nxS mB mn rd ≤ mn := fw_R (B := mB) (n := mn) _ rd 0 rfl hrd.2
  have hF := rtF_R (c := bA mB mn (nxS mB mn rd)) hB (show 0 ≤ nxS mB mn rd ∧ nxS mB mn rd < mn by omega)
  have h9 : nxK mB mn me rd mdp = 9 → mdp < 20 := fun h => (rt_9 h).1
  have h10 : nxK mB mn me rd mdp = 10 → ¬ mdp = 0 := fun h => rt_10 h
  refine ⟨by rw [F0]; exact hF, G0.trans F0.symm, G1.trans F1.symm, g1.trans f1.symm, g2.trans f2.symm, g8.trans F3.symm, G3.trans F4.symm, ?_, g4.trans f4.symm, f5, ⟨_, f3, g3.1, g3.2⟩, ?_, fun h => (f7 h).trans (g7 (by omega)).symm, ?_⟩
  · rw [F4]
    split
    · have := h9 (by assumption); omega
    · split
      · have := h10 (by assumption); omega
      · exact hbr
  · intro j a b
    have ha := f6 j a b
    have hb := g6 j a (by omega)
    have hm := g7 (by omega)
    by_cases c : rwR (bA mB mn (nxS mB mn rd + 1))
    · rw [tf_t c] at hm
      rw [hm, if_pos rfl, if_pos rfl, hb.1 c]
      refine ⟨ha.1.trans (if_pos c), ha.2.trans (if_pos c)⟩
    · rw [tf_f c] at hm
      rw [hm, if_neg (by decide), if_neg (by decide), hb.2 c]
      exact ⟨ha.1.trans (if_neg c), ha.2.trans (if_neg c)⟩
  · intro j hj
    rw [F4] at hj
    rw [F5, G4]
    by_cases c : nxK mB mn me rd mdp = 9
    · rw [if_pos c] at hj
      rw [if_pos c, if_pos c]
      unfold uI
      by_cases c2 : j = mdp.toNat
      · rw [if_pos c2, if_pos c2]
      · rw [if_neg c2, if_neg c2]; exact hop j (by omega)
    · rw [if_neg c] at hj
      rw [if_neg c, if_neg c]
      refine hop j ?_
      split at hj <;> omega
theorem nxn_all {B mB : Nat → Nat} {n e rd br mn me dn mdp lp mpl : Int} {rd2 lp2 br2 dn2 pl2 dp2 : Int} {bp opf : Nat → Int}
    (hB : ∀ j, B j < 256) (hmB : mB = B) (h1 : mn = n ∧ me = e ∧ mdp = br) (hp : mpl = lp) (he : e = 0 ∨ e = 1) (hrd : 0 ≤ rd ∧ rd ≤ n) (hdn : 0 ≤ dn ∧ dn ≤ n) (hbr : 0 ≤ br ∧ br ≤ 20) (h0 : e = 0 → rd = dn) (hS : nxS B n rd = nxS B n dn) (hop : ∀ j : Nat, (j : Int) < br → bp j = opf j)
    (F0 : br2 = nxBr B n e rd br) (F1 : rd2 = nxRd B n e rd br) (F2 : lp2 = nxLp B n e rd br lp bp)
    (G0 : dp2 = nxBr mB mn me dn mdp) (G1 : dn2 = (if nxS mB mn dn = mn ∧ ¬ me = 0 then mn else nxRd mB mn me dn mdp)) (G2 : pl2 = nxLp mB mn me dn mdp mpl opf) :
    (0 ≤ rd2 ∧ rd2 ≤ n) ∧ (0 ≤ dn2 ∧ dn2 ≤ n) ∧ (e = 0 → rd2 = dn2) ∧ nxS B n rd2 = nxS B n dn2 ∧ pl2 = lp2 ∧ dp2 = br2 ∧ (0 ≤ br2 ∧ br2 ≤ 20) ∧ (∀ j : Nat, (j : Int) < br2 → bp j = opf j) := by
  obtain ⟨c1, c2, -⟩ := nx_cv hmB h1 hS
  obtain ⟨rfl, rfl, rfl⟩ := h1
  subst hmB
  subst hp
  have hSR : rd ≤ nxS mB mn rd ∧ nxS mB mn rd ≤ mn := fw_R (B := mB) (n := mn) _ rd 0 rfl hrd.2
  have hB2 : br2 = 0 ∨ br2 = mdp := by
    rw [F0]; unfold nxBr; split
    · exact Or.inl rfl
    · exact Or.inr rfl
  have hdp : dp2 = br2 := by rw [G0, F0]; unfold nxBr; rw [c1]
  have hlp : pl2 = lp2 := by
    rw [G2, F2]; unfold nxLp; rw [c1, c2]
    by_cases a : nxS mB mn rd = mn
    · rw [if_pos a, if_pos a]
      by_cases b : ¬ me = 0 ∧ 0 < mdp
      · rw [if_pos b, if_pos b]; exact (hop _ (by omega)).symm
      · rw [if_neg b, if_neg b]
    · rw [if_neg a, if_neg a]
  have hlast : ∀ j : Nat, (j : Int) < br2 → bp j = opf j := fun j hj => hop j (by omega)
  by_cases a : nxS mB mn rd = mn
  · have e1 : rd2 = rd := by rw [F1]; unfold nxRd; rw [if_neg (fun q => q.1 a)]
    rw [c1] at G1
    by_cases b : me = 0
    · have e2 : dn2 = dn := by
        rw [G1, if_neg (fun q => q.2 b)]; unfold nxRd; rw [c1, if_neg (fun q => q.1 a)]
      exact ⟨by omega, by omega, fun _ => by rw [e1, e2]; exact h0 b, by rw [e1, e2]; exact hS, hlp, hdp, by omega, hlast⟩
    · have e2 : dn2 = mn := by rw [G1, if_pos ⟨a, b⟩]
      exact ⟨by omega, by omega, fun q => absurd q b, by rw [e1, e2, nxS_n]; exact a, hlp, hdp, by omega, hlast⟩
  · rw [c1, if_neg (fun q => a q.1)] at G1
    by_cases b : nxK mB mn me rd mdp < 0
    · have e1 : rd2 = rtF mB mn (nxS mB mn rd) (bA mB mn (nxS mB mn rd)) := by rw [F1]; unfold nxRd; rw [if_pos ⟨a, b⟩]
      have e2 : dn2 = rd2 := by rw [G1, e1]; unfold nxRd; rw [c1, c2, if_pos ⟨a, b⟩]
      have hF := rtF_R (c := bA mB mn (nxS mB mn rd)) hB (show 0 ≤ nxS mB mn rd ∧ nxS mB mn rd < mn by omega)
      exact ⟨by rw [e1]; exact hF, by rw [e2, e1]; exact hF, fun _ => e2.symm, by rw [e2], hlp, hdp, by omega, hlast⟩
    · have e1 : rd2 = rd := by rw [F1]; unfold nxRd; rw [if_neg (fun q => b q.2)]
      have e2 : dn2 = dn := by rw [G1]; unfold nxRd; rw [c1, c2, if_neg (fun q => b q.2)]
      exact ⟨by omega, by omega, fun q => by rw [e1, e2]; exact h0 q, by rw [e1, e2]; exact hS, hlp, hdp, by omega, hlast⟩
theorem by8_sg {k : Nat} (h : k < 256) : by8 (sg8 k) = k := by
  have : ∀ k, k < 256 → by8 (sg8 k) = k := by decide +kernel
  exact this k h
theorem uB_lt1 {B : Nat → Nat} {k v : Nat} (hB : ∀ j, B j < 256) (hv : v < 256) : ∀ j, uB B k v j < 256 := by
  intro j; unfold uB; split
  · exact hv
  · exact hB j
theorem ad_all {B mB B2 mB2 : Nat → Nat} {n e rd dn mn me n2 mn2 z th y : Int} {s : Int} {f2 : Nat → Int}
    (hB : ∀ j, B j < 256) (hn : 0 ≤ n ∧ n ≤ 3000) (hmB : mB = B) (h1 : mn = n ∧ me = e) (hrd : 0 ≤ rd ∧ rd ≤ n) (hdn : 0 ≤ dn ∧ dn ≤ n) (h0 : e = 0 → rd = dn) (hS : nxS B n rd = nxS B n dn)
    (F : (e = 1 ∧ z = 1 ∧ n2 = n ∧ B2 = B) ∨ (e = 0 ∧ n = 3000 ∧ z = 2 ∧ n2 = n ∧ B2 = B) ∨ (e = 0 ∧ n < 3000 ∧ z = 0 ∧ n2 = n + 1 ∧ B2 = uB B n.toNat (by8 (sg8 (by8 s))) ∧ f2 0 = n + 1))
    (G : (me = 1 ∧ th = 1 ∧ mn2 = mn ∧ mB2 = mB ∧ y = 0) ∨ (me = 0 ∧ mn = 3000 ∧ th = 2 ∧ mn2 = mn ∧ mB2 = mB ∧ y = 0) ∨ (me = 0 ∧ mn < 3000 ∧ th = 0 ∧ mn2 = mn + 1 ∧ mB2 = uB mB mn.toNat (by8 s) ∧ y = mn + 1)) :
    th = z ∧ (z = 0 ∨ z = 1 ∨ z = 2) ∧ (z = 0 → y = f2 0 ∧ R32 y) ∧ mn2 = n2 ∧ mB2 = B2 ∧ (∀ j, B2 j < 256) ∧ (0 ≤ n2 ∧ n2 ≤ 3000) ∧ (0 ≤ rd ∧ rd ≤ n2) ∧ (0 ≤ dn ∧ dn ≤ n2) ∧ nxS B2 n2 rd = nxS B2 n2 dn := by
  obtain ⟨rfl, rfl⟩ := h1
  subst hmB
  rcases F with ⟨a1, a2, a3, a4⟩ | ⟨a1, a2, a3, a4, a5⟩ | ⟨a1, a2, a3, a4, a5, a6⟩
  · rcases G with ⟨b1, b2, b3, b4, b5⟩ | ⟨b1, -⟩ | ⟨b1, -⟩
    · subst a4; subst a3
      exact ⟨by omega, by omega, fun q => by omega, by omega, b4, hB, hn, hrd, hdn, hS⟩
    · omega
    · omega
  · rcases G with ⟨b1, -⟩ | ⟨b1, b2, b3, b4, b5, b6⟩ | ⟨b1, b2, -⟩
    · omega
    · subst a5; subst a4
      exact ⟨by omega, by omega, fun q => by omega, by omega, b5, hB, hn, hrd, hdn, hS⟩
    · omega
  · rcases G with ⟨b1, -⟩ | ⟨b1, b2, -⟩ | ⟨b1, b2, b3, b4, b5, b6⟩
    · omega
    · omega
    · rw [by8_sg (by8_lt _)] at a5
      refine ⟨by omega, by omega, fun _ => ⟨by omega, by omega⟩, by omega, b5.trans a5.symm, ?_, by omega, by omega, by omega, by rw [h0 a1]⟩
      rw [a5]; exact uB_lt1 hB (by8_lt _)
theorem en_eq {n e rd mn me dn : Int} (h1 : mn = n ∧ me = e) (h0 : e = 0 → rd = dn) : (if me = 0 then mn - dn else -1) = (if e = 0 then n - rd else -1) := by
  obtain ⟨rfl, rfl⟩ := h1
  by_cases c : me = 0
  · rw [if_pos c, if_pos c, h0 c]
  · rw [if_neg c, if_neg c]
theorem sg_eq {lt9 tx : Nat → Nat} {llen sg : Int} (h : ∃ O, TX lt9 llen O ∧ TY tx sg O ∧ sg ≤ 400) (i : Int) : bA tx sg i = bA lt9 llen i := by
  obtain ⟨O, h1, h2, h3⟩ := h
  have hs : sg = llen := by
    have := h2.1; have := (TX_400 h1).2 (fun q => by have := (TX_400 h1).1.mp q; omega); omega
  subst hs
  unfold bA
  by_cases c : 0 ≤ i ∧ i < sg
  · rw [if_pos c, if_pos c]
    have hl := h2.1
    rw [h2.2.1 i.toNat (by omega) (by omega), h1.2.1 i.toNat (by omega) (by omega)]
  · rw [if_neg c, if_neg c]
theorem bi_all {lrl row lror mror i w z th y : Int} {lrn xi f2 : Nat → Int} {lrr xd : Nat → UInt64}
    (hrow : row = lrl) (hlo : lror = 0 ∨ lror = 1) (hmr : mror = 0 ∨ mror = 1) (hror : 0 < lrl → lror = mror) (hR : RowR lrl mror lrn xi lrr xd)
    (F : ((0 ≤ i ∧ i < lrl ∧ 0 ≤ w ∧ w ≤ 1) ∧ z = 0 ∧ f2 0 = (iI (if w = 0 then (if lror = 0 then 0 else 1) else lrn i.toNat)).toInt) ∨ (¬ (0 ≤ i ∧ i < lrl ∧ 0 ≤ w ∧ w ≤ 1) ∧ z = 1))
    (G : (0 ≤ i ∧ i < row ∧ (w = 0 ∨ w = 1) ∧ th = 0 ∧ y = (if w = 0 then (if mror = 1 then 1 else 0) else if mror = 1 then 0 else xi i.toNat)) ∨ (¬ (0 ≤ i ∧ i < row ∧ (w = 0 ∨ w = 1)) ∧ th = 1 ∧ y = 0)) :
    th = z ∧ (z = 0 ∨ z = 1) ∧ (z = 0 → (iI y).toInt = f2 0) := by
  subst hrow
  rcases F with ⟨a1, a2, a3⟩ | ⟨a1, a2⟩
  · rcases G with ⟨b1, b2, b3, b4, b5⟩ | ⟨b1, -⟩
    · refine ⟨by omega, by omega, fun _ => ?_⟩
      rw [a3, b5]
      have hr := hR i b1 b2
      have h2 := hror (by omega)
      by_cases c : w = 0
      · rw [if_pos c, if_pos c]
        by_cases c2 : mror = 1
        · rw [if_pos c2, if_neg (by omega)]
        · rw [if_neg c2, if_pos (by omega)]
      · rw [if_neg c, if_neg c, hr.1]
    · exact absurd ⟨a1.1, a1.2.1, by omega⟩ b1
  · rcases G with ⟨b1, b2, b3, -⟩ | ⟨b1, b2, b3⟩
    · exact absurd ⟨b1, b2, by omega⟩ a1
    · exact ⟨by omega, by omega, fun q => by omega⟩
theorem br_bin {lrl row mror i z th : Int} {y : UInt64} {lrn xi : Nat → Int} {lrr xd g2 : Nat → UInt64}
    (hrow : row = lrl) (hR : RowR lrl mror lrn xi lrr xd)
    (F : ((0 ≤ i ∧ i < lrl) ∧ z = 0 ∧ g2 0 = lrr i.toNat) ∨ (¬ (0 ≤ i ∧ i < lrl) ∧ z = 1))
    (G : (0 ≤ i ∧ i < row ∧ th = 0 ∧ y = (if mror = 1 then xd i.toNat else FP.dconst0)) ∨ (¬ (0 ≤ i ∧ i < row) ∧ th = 1)) :
    th = z ∧ (z = 0 ∨ z = 1) ∧ (z = 0 → g2 0 = y) := by
  subst hrow
  rcases F with ⟨a1, a2, a3⟩ | ⟨a1, a2⟩
  · rcases G with ⟨b1, b2, b3, b4⟩ | ⟨b1, -⟩
    · exact ⟨by omega, by omega, fun _ => by rw [a3, b4]; exact (hR i b1 b2).2⟩
    · exact absurd a1 b1
  · rcases G with ⟨b1, b2, b3, -⟩ | ⟨b1, b2⟩
    · exact absurd ⟨b1, b2⟩ a1
    · exact ⟨by omega, by omega, fun q => by omega⟩
theorem oc_all {B mB : Nat → Nat} {n mn i z th y : Int} {f2 : Nat → Int} (hB : ∀ j, B j < 256) (hmB : mB = B) (h1 : mn = n)
    (F : ((0 ≤ i ∧ i < n) ∧ z = 0 ∧ f2 0 = sg8 (B i.toNat)) ∨ (¬ (0 ≤ i ∧ i < n) ∧ z = 1))
    (G : (0 ≤ i ∧ i < mn ∧ th = 0 ∧ y = sg8 (mB i.toNat)) ∨ (¬ (0 ≤ i ∧ i < mn) ∧ th = 1)) :
    th = z ∧ (z = 0 ∨ z = 1) ∧ (z = 0 → y = f2 0 ∧ R32 y) := by
  subst h1; subst hmB
  rcases F with ⟨a1, a2, a3⟩ | ⟨a1, a2⟩
  · rcases G with ⟨b1, b2, b3, b4⟩ | ⟨b1, -⟩
    · have := sg8_R _ (hB i.toNat)
      exact ⟨by omega, by omega, fun _ => ⟨by omega, by omega⟩⟩
    · exact absurd a1 b1
  · rcases G with ⟨b1, b2, b3, -⟩ | ⟨b1, b2⟩
    · exact absurd ⟨b1, b2⟩ a1
    · exact ⟨by omega, by omega, fun q => by omega⟩
theorem iand15 (z : Int) : iI z &&& iI 15 = iI (z % 16) := iandM z 4 (by decide) (by decide)
/-- a cell of the law's script, as a number -/
def sc (xs : Nat → Int32) (z : Int) : Int := (xs z.toNat).toInt
theorem sc_R (xs : Nat → Int32) (z : Int) : R32 (sc xs z) := iI_R _
section SAME
variable {K : KX} {G : GX} {R0 : Room} {cc : ByteArray} {nL nc ns pc : Nat} {own : String} {lv : List (Nat × Value)} {st : List Value} {ws : va_W}
theorem s_ieq_same {off : Int} {x : Int32} (X : SK K G R0 cc nL own) (tgt : Nat) (d : decode cc pc = .ok (.if_icmp .eq off, 3)) (ht : (pc : Int) + off = (tgt : Int)) (k : SW K G nL nc ns tgt lv st ws) : SW K G nL nc ns pc lv (.int x :: .int x :: st) ws := by
  intro H locs ls hP hD hS hl
  exact lv_icmp_eq X.1 X.2.1 d ht (fun _ => k H locs ls hP hD hS hl) (fun h => absurd rfl h)
theorem s_leq_same {off : Int} {x : Int64} (X : SK K G R0 cc nL own) (tgt : Nat) (d1 : decode cc pc = .ok (.lcmp, 1)) (d : decode cc (pc + 1) = .ok (.ifCond .eq off, 3)) (ht : ((pc + 1 : Nat) : Int) + off = (tgt : Int)) (k : SW K G nL nc ns tgt lv st ws) : SW K G nL nc ns pc lv (.long x :: .long x :: st) ws := by
  refine s_lcmp X d1 ?_
  have h0 : lg_cmp x x = 0 := by
    unfold lg_cmp
    rw [if_neg Int64.lt_irrefl, if_pos rfl]
  rw [h0]
  intro H locs ls hP hD hS hl
  exact lv_if_eq X.1 X.2.1 d ht (fun _ => k H locs ls hP hD hS hl) (fun h => absurd rfl h)
end SAME
