/-! cells of the two systems, in the order of their fields; rows for compares of longs and for Math.max / Math.min -/
abbrev aB (G : GX) (a n : Nat) (B : Nat → Nat) : Nat × va_E := (a, .inl (gB G, n, .inl (fB B)))
abbrev aI (G : GX) (a n : Nat) (P : Nat → Int) : Nat × va_E := (a, .inl (gI G, n, .inl (fI P)))
abbrev aF (G : GX) (a n : Nat) (P : Nat → UInt64) : Nat × va_E := (a, .inl (gF G, n, .inr (.inr (.inr (.inl P)))))
abbrev aJ (G : GX) (a n : Nat) (P : Nat → Int) : Nat × va_E := (a, .inl (gJ G, n, .inr (.inl (fun j => lI (P j)))))
abbrev oBi (o b : Nat) : Nat × va_E := (o, .inr (1, [.ref b]))
abbrev oBy (o a : Nat) (n rd e : Int) : Nat × va_E := (o, .inr (2, [.ref a, .int (iI n), .int (iI rd), .int (iI e)]))
abbrev oSt (o b : Nat) : Nat × va_E := (o, .inr (3, [.ref b]))
abbrev oTk (o : Nat) (pl af wh : Int) (re : UInt64) (x : Nat) (len : Int) (i d : Nat) (ror rl : Int) : Nat × va_E := (o, .inr (4, [.int (iI pl), .int (iI af), .long (lI wh), .double re, .ref x, .int (iI len), .ref i, .ref d, .int (iI ror), .int (iI rl)]))
abbrev oWd (o b : Nat) (base : Int) : Nat × va_E := (o, .inr (5, [.ref b, .int (iI base)]))
abbrev oTR (o b w s i p : Nat) (br : Int) (lt dr : Nat) (lp : Int) : Nat × va_E := (o, .inr (6, [.ref b, .ref w, .ref s, .ref i, .ref p, .int (iI br), .ref lt, .ref dr, .int (iI lp)]))
abbrev oMo (o : Nat) (thrown size : Int) (bytes : Nat) (ended done at9 depth : Int) (opened : Nat) (kind whole : Int) (real : UInt64) (place base signs : Int) (text : Nat) (row rowIsReal : Int) (ints reals : Nat) (nPlace nWhole : Int) (nReal : UInt64) (nBase nSigns : Int) (nText : Nat) (nRow nIsReal : Int) (nInts nReals : Nat) (inf : Int) : Nat × va_E := (o, .inr (7, [.int (iI thrown), .int (iI size), .ref bytes, .int (iI ended), .int (iI done), .int (iI at9), .int (iI depth), .ref opened, .int (iI kind), .long (lI whole), .double real, .int (iI place), .int (iI base), .int (iI signs), .ref text, .int (iI row), .int (iI rowIsReal), .ref ints, .ref reals, .int (iI nPlace), .long (lI nWhole), .double nReal, .int (iI nBase), .int (iI nSigns), .ref nText, .int (iI nRow), .int (iI nIsReal), .ref nInts, .ref nReals, .int (iI inf)]))
def cm3 (a b : Int) : Int := if b < a then 1 else if a = b then 0 else -1
theorem cm3_R (a b : Int) : R32 (cm3 a b) := by
  unfold cm3
  by_cases h : b < a
  · rw [if_pos h]; decide
  · rw [if_neg h]
    by_cases h2 : a = b
    · rw [if_pos h2]; decide
    · rw [if_neg h2]; decide
theorem cm3_c (a b : Int) : (b < a ∧ cm3 a b = 1) ∨ (a = b ∧ cm3 a b = 0) ∨ (a < b ∧ cm3 a b = -1) := by
  unfold cm3
  by_cases h : b < a
  · rw [if_pos h]; exact Or.inl ⟨h, rfl⟩
  · rw [if_neg h]
    by_cases h2 : a = b
    · rw [if_pos h2]; exact Or.inr (Or.inl ⟨h2, rfl⟩)
    · rw [if_neg h2]; exact Or.inr (Or.inr ⟨by omega, rfl⟩)
theorem lgc {a b : Int} (ha : R64 a) (hb : R64 b) : lg_cmp (lI a) (lI b) = iI (cm3 a b) := by
  unfold lg_cmp cm3
  by_cases h : b < a
  · rw [if_pos h, if_pos ((lI_lt hb ha).mpr h)]; rfl
  · rw [if_neg h, if_neg (fun q => h ((lI_lt hb ha).mp q))]
    by_cases h2 : a = b
    · rw [if_pos h2, if_pos ((lI_eq ha hb).mpr h2)]; rfl
    · rw [if_neg h2, if_neg (fun q => h2 ((lI_eq ha hb).mp q))]; rfl
theorem sb_and9 {n : Nat} (h : n < 256) : sb n &&& iI 255 = iI n := sb_and h
section SB
variable {K : KX} {G : GX} {R0 : Room} {cc : ByteArray} {nL nc ns pc : Nat} {own : String} {lv : List (Nat × Value)} {st : List Value} {ws : va_W}
theorem s_lif_eq {off : Int} {a b : Int} (X : SK K G R0 cc nL own) (tgt : Nat) (d1 : decode cc pc = .ok (.lcmp, 1)) (d : decode cc (pc + 1) = .ok (.ifCond .eq off, 3)) (ht : ((pc + 1 : Nat) : Int) + off = (tgt : Int)) (hr : R64 a ∧ R64 b) (kt : a = b → SW K G nL nc ns tgt lv st ws) (kf : ¬ a = b → SW K G nL nc ns (pc + 4) lv st ws) : SW K G nL nc ns pc lv (.long (lI b) :: .long (lI a) :: st) ws := by
  refine s_lcmp X d1 ?_
  rw [lgc hr.1 hr.2]
  have h3 := cm3_c a b
  refine s_if_eq X tgt d ht (cm3_R a b) (fun h => kt ?_) (fun h => kf ?_) <;> omega
theorem s_lif_ne {off : Int} {a b : Int} (X : SK K G R0 cc nL own) (tgt : Nat) (d1 : decode cc pc = .ok (.lcmp, 1)) (d : decode cc (pc + 1) = .ok (.ifCond .ne off, 3)) (ht : ((pc + 1 : Nat) : Int) + off = (tgt : Int)) (hr : R64 a ∧ R64 b) (kt : ¬ a = b → SW K G nL nc ns tgt lv st ws) (kf : a = b → SW K G nL nc ns (pc + 4) lv st ws) : SW K G nL nc ns pc lv (.long (lI b) :: .long (lI a) :: st) ws := by
  refine s_lcmp X d1 ?_
  rw [lgc hr.1 hr.2]
  have h3 := cm3_c a b
  refine s_if_ne X tgt d ht (cm3_R a b) (fun h => kt ?_) (fun h => kf ?_) <;> omega
theorem s_lif_lt {off : Int} {a b : Int} (X : SK K G R0 cc nL own) (tgt : Nat) (d1 : decode cc pc = .ok (.lcmp, 1)) (d : decode cc (pc + 1) = .ok (.ifCond .lt off, 3)) (ht : ((pc + 1 : Nat) : Int) + off = (tgt : Int)) (hr : R64 a ∧ R64 b) (kt : a < b → SW K G nL nc ns tgt lv st ws) (kf : b ≤ a → SW K G nL nc ns (pc + 4) lv st ws) : SW K G nL nc ns pc lv (.long (lI b) :: .long (lI a) :: st) ws := by
  refine s_lcmp X d1 ?_
  rw [lgc hr.1 hr.2]
  have h3 := cm3_c a b
  refine s_if_lt X tgt d ht (cm3_R a b) (fun h => kt ?_) (fun h => kf ?_) <;> omega
theorem s_lif_ge {off : Int} {a b : Int} (X : SK K G R0 cc nL own) (tgt : Nat) (d1 : decode cc pc = .ok (.lcmp, 1)) (d : decode cc (pc + 1) = .ok (.ifCond .ge off, 3)) (ht : ((pc + 1 : Nat) : Int) + off = (tgt : Int)) (hr : R64 a ∧ R64 b) (kt : b ≤ a → SW K G nL nc ns tgt lv st ws) (kf : a < b → SW K G nL nc ns (pc + 4) lv st ws) : SW K G nL nc ns pc lv (.long (lI b) :: .long (lI a) :: st) ws := by
  refine s_lcmp X d1 ?_
  rw [lgc hr.1 hr.2]
  have h3 := cm3_c a b
  refine s_if_ge X tgt d ht (cm3_R a b) (fun h => kt ?_) (fun h => kf ?_) <;> omega
theorem s_lif_gt {off : Int} {a b : Int} (X : SK K G R0 cc nL own) (tgt : Nat) (d1 : decode cc pc = .ok (.lcmp, 1)) (d : decode cc (pc + 1) = .ok (.ifCond .gt off, 3)) (ht : ((pc + 1 : Nat) : Int) + off = (tgt : Int)) (hr : R64 a ∧ R64 b) (kt : b < a → SW K G nL nc ns tgt lv st ws) (kf : a ≤ b → SW K G nL nc ns (pc + 4) lv st ws) : SW K G nL nc ns pc lv (.long (lI b) :: .long (lI a) :: st) ws := by
  refine s_lcmp X d1 ?_
  rw [lgc hr.1 hr.2]
  have h3 := cm3_c a b
  refine s_if_gt X tgt d ht (cm3_R a b) (fun h => kt ?_) (fun h => kf ?_) <;> omega
theorem s_lif_le {off : Int} {a b : Int} (X : SK K G R0 cc nL own) (tgt : Nat) (d1 : decode cc pc = .ok (.lcmp, 1)) (d : decode cc (pc + 1) = .ok (.ifCond .le off, 3)) (ht : ((pc + 1 : Nat) : Int) + off = (tgt : Int)) (hr : R64 a ∧ R64 b) (kt : a ≤ b → SW K G nL nc ns tgt lv st ws) (kf : b < a → SW K G nL nc ns (pc + 4) lv st ws) : SW K G nL nc ns pc lv (.long (lI b) :: .long (lI a) :: st) ws := by
  refine s_lcmp X d1 ?_
  rw [lgc hr.1 hr.2]
  have h3 := cm3_c a b
  refine s_if_le X tgt d ht (cm3_R a b) (fun h => kt ?_) (fun h => kf ?_) <;> omega
theorem s_mmax {idx : Nat} {a b : Int} (X : SK K G R0 cc nL own) (w1 : TG (.methodLink own idx Lib.Math.max.name)) (w2 : TG (.static Lib.Math.max.name)) (w3 : TG (.initialized "java/lang/Math")) (w4 : TG (.code Lib.Math.max.name Lib.Math.max.code 2 (some .int))) (hroom : (1 ≤ R0.frames ∧ (st.map fun v => v.category).sum + 13 ≤ R0.locals) ∧ nc ≤ R0.cells ∧ ns ≤ R0.slots) (d : decode cc pc = .ok (.invokestatic idx, 3)) (hr : R32 a ∧ R32 b) (k : SW K G nL nc ns (pc + 3) lv (.int (iI (if a < b then b else a)) :: st) ws) : SW K G nL nc ns pc lv (.int (iI b) :: .int (iI a) :: st) ws := by
  intro H locs ls hP hD hS hl
  have hRk : kR K = R0 := X.2.2.2.2.2.2
  refine va_mmax X.1 X.2.1 (X.2.2.1.trans hl.1.symm) X.2.2.2.1 (X.tb w1 _) (X.tb w2 _) (X.tb w3 _) (X.tb w4 _) (by rw [hRk]; exact hroom.1.1) (by rw [hRk]; exact hroom.1.2) (by rw [hRk]; exact hroom.2.1) (by rw [hRk]; exact hroom.2.2) d ?_
  have e : (if iI a < iI b then iI b else iI a) = iI (if a < b then b else a) := by
    by_cases h : a < b
    · rw [if_pos h, if_pos ((iI_lt hr.1 hr.2).mpr h)]
    · rw [if_neg h, if_neg (fun q => h ((iI_lt hr.1 hr.2).mp q))]
  rw [e]
  exact k H locs ls hP hD hS hl
theorem s_mminL {idx : Nat} {a b : Int} (X : SK K G R0 cc nL own) (w1 : TG (.methodLink own idx Lib.MathLoose.min_long.x)) (w2 : TG (.static Lib.MathLoose.min_long.x)) (w3 : TG (.initialized "java/lang/Math")) (w4 : TG (.code Lib.MathLoose.min_long.x Lib.MathLoose.min_long.code 4 (some .long))) (hroom : (1 ≤ R0.frames ∧ (st.map fun v => v.category).sum + 15 ≤ R0.locals) ∧ nc ≤ R0.cells ∧ ns ≤ R0.slots) (d : decode cc pc = .ok (.invokestatic idx, 3)) (hr : R64 a ∧ R64 b) (k : SW K G nL nc ns (pc + 3) lv (.long (lI (if b < a then b else a)) :: st) ws) : SW K G nL nc ns pc lv (.long (lI b) :: .long (lI a) :: st) ws := by
  intro H locs ls hP hD hS hl
  have hRk : kR K = R0 := X.2.2.2.2.2.2
  refine va_mmin_long X.1 X.2.1 (X.2.2.1.trans hl.1.symm) X.2.2.2.1 (X.tb w1 _) (X.tb w2 _) (X.tb w3 _) (X.tb w4 _) (by rw [hRk]; exact hroom.1.1) (by rw [hRk]; exact hroom.1.2) (by rw [hRk]; exact hroom.2.1) (by rw [hRk]; exact hroom.2.2) d ?_
  have e : (if lI b < lI a then lI b else lI a) = lI (if b < a then b else a) := by
    by_cases h : b < a
    · rw [if_pos h, if_pos ((lI_lt hr.2 hr.1).mpr h)]
    · rw [if_neg h, if_neg (fun q => h ((lI_lt hr.2 hr.1).mp q))]
  rw [e]
  exact k H locs ls hP hD hS hl
theorem s_bastI {a n : Nat} {B : Nat → Nat} {z v : Int} (X : SK K G R0 cc nL own) (d : decode cc pc = .ok (.bastore, 1)) (i : Nat) (he : ws[i]? = some (a, .inl (gB G, n, .inl (fB B)))) (hz : 0 ≤ z ∧ z < n ∧ n < 2147483648) (ws9 : va_W) (hw : ws.set i (a, .inl (gB G, n, .inl (fB (uB B z.toNat (by8 v))))) = ws9) (k : SW K G nL nc ns (pc + 1) lv st ws9) : SW K G nL nc ns pc lv (.int (iI v) :: .int (iI z) :: .ref a :: st) ws := by
  intro H locs ls hP hD hS hl
  subst hw
  refine va_bast X.1 X.2.1 X.2.2.2.2.1.1 hP hD hS i 0 he rfl (iI_in hz.1 hz.2.1 hz.2.2) d (fun H1 locs1 hP1 hD1 hS1 => ?_)
  rw [iI_cl ⟨by omega, by omega⟩, vp_nar_byte, sb_of, fB_up] at hP1 hD1
  exact k H1 locs1 ls hP1 hD1 hS1 hl
end SB
theorem tm_max1 : TG (.methodLink RX2 38 Lib.Math.max.name) := ⟨List.mem_of_getElem? (i := 417) (by decide +kernel), by decide +kernel⟩
theorem tm_max2 : TG (.static Lib.Math.max.name) := ⟨List.mem_of_getElem? (i := 418) (by decide +kernel), by decide +kernel⟩
theorem tm_ini : TG (.initialized "java/lang/Math") := ⟨List.mem_of_getElem? (i := 74) (by decide +kernel), by decide +kernel⟩
theorem tm_max4 : TG (.code Lib.Math.max.name Lib.Math.max.code 2 (some .int)) := ⟨List.mem_of_getElem? (i := 419) (by decide +kernel), by decide +kernel⟩
theorem tm_min1 : TG (.methodLink RX4 118 Lib.MathLoose.min_long.x) := ⟨List.mem_of_getElem? (i := 489) (by decide +kernel), by decide +kernel⟩
theorem tm_min2 : TG (.static Lib.MathLoose.min_long.x) := ⟨List.mem_of_getElem? (i := 490) (by decide +kernel), by decide +kernel⟩
theorem tm_min4 : TG (.code Lib.MathLoose.min_long.x Lib.MathLoose.min_long.code 4 (some .long)) := ⟨List.mem_of_getElem? (i := 491) (by decide +kernel), by decide +kernel⟩
