/-! THE S-LAYER. Numbers: an int is iI z of an Int z, a long lI z; a byte row holds fB B (B : Nat -> Nat, the bytes 0 .. 255), an int row fI P. A context K folds program, launch, frame, heap bound and goal; SW K G nL nc ns pc lv st ws: from every heap that holds the cells ws, with locals lv and stack st at pc, the machine comes to K's goal. -/
def iI (z : Int) : Int32 := Int32.ofInt z
def lI (z : Int) : Int64 := Int64.ofInt z
abbrev R32 (z : Int) : Prop := -2147483648 ≤ z ∧ z < 2147483648
abbrev R64 (z : Int) : Prop := -9223372036854775808 ≤ z ∧ z < 9223372036854775808
theorem iI_add (a b : Int) : iI a + iI b = iI (a + b) := (Int32.ofInt_add a b).symm
theorem iI_sub (a b : Int) : iI a - iI b = iI (a - b) := (Int32.ofInt_sub a b).symm
theorem iI_mul (a b : Int) : iI a * iI b = iI (a * b) := (Int32.ofInt_mul a b).symm
theorem iI_neg (a : Int) : -iI a = iI (-a) := (Int32.ofInt_neg a).symm
theorem lI_add (a b : Int) : lI a + lI b = lI (a + b) := (Int64.ofInt_add a b).symm
theorem lI_sub (a b : Int) : lI a - lI b = lI (a - b) := (Int64.ofInt_sub a b).symm
theorem lI_mul (a b : Int) : lI a * lI b = lI (a * b) := (Int64.ofInt_mul a b).symm
theorem lI_neg (a : Int) : -lI a = lI (-a) := (Int64.ofInt_neg a).symm
theorem iI_toInt {z : Int} (h : R32 z) : (iI z).toInt = z := Int32.toInt_ofInt_of_le (by omega) (by omega)
theorem lI_toInt {z : Int} (h : R64 z) : (lI z).toInt = z := Int64.toInt_ofInt_of_le (by omega) (by omega)
theorem iI_of (x : Int32) : iI x.toInt = x := Int32.ofInt_toInt x
theorem iI_R (x : Int32) : R32 x.toInt := ⟨Int32.le_toInt x, Int32.toInt_lt x⟩
theorem iI_ex (x : Int32) : ∃ z : Int, R32 z ∧ x = iI z := ⟨x.toInt, iI_R x, (iI_of x).symm⟩
theorem iI_le {a b : Int} (ha : R32 a) (hb : R32 b) : iI a ≤ iI b ↔ a ≤ b := by rw [Int32.le_iff_toInt_le, iI_toInt ha, iI_toInt hb]
theorem iI_lt {a b : Int} (ha : R32 a) (hb : R32 b) : iI a < iI b ↔ a < b := by rw [Int32.lt_iff_toInt_lt, iI_toInt ha, iI_toInt hb]
theorem iI_eq {a b : Int} (ha : R32 a) (hb : R32 b) : iI a = iI b ↔ a = b := ⟨fun h => by have h := congrArg Int32.toInt h; rwa [iI_toInt ha, iI_toInt hb] at h, fun h => by rw [h]⟩
theorem lI_le {a b : Int} (ha : R64 a) (hb : R64 b) : lI a ≤ lI b ↔ a ≤ b := by rw [Int64.le_iff_toInt_le, lI_toInt ha, lI_toInt hb]
theorem lI_lt {a b : Int} (ha : R64 a) (hb : R64 b) : lI a < lI b ↔ a < b := by rw [Int64.lt_iff_toInt_lt, lI_toInt ha, lI_toInt hb]
theorem lI_eq {a b : Int} (ha : R64 a) (hb : R64 b) : lI a = lI b ↔ a = b := ⟨fun h => by have h := congrArg Int64.toInt h; rwa [lI_toInt ha, lI_toInt hb] at h, fun h => by rw [h]⟩
theorem iI_0 : iI 0 = 0 := rfl
theorem lI_0 : lI 0 = 0 := rfl
theorem iI_cl {z : Int} (h : R32 z) : (iI z).toNatClampNeg = z.toNat := by
  rw [Int32.toNatClampNeg, iI_toInt h]
theorem iI_in {z : Int} {n : Nat} (h0 : 0 ≤ z) (h : z < n) (hn : n < 2147483648) : vp_in (iI z) n := by
  have h1 : R32 z := ⟨by omega, by omega⟩
  rw [vp_in_iff, iI_toInt h1]
  exact ⟨h0, h⟩
theorem iI_l {z : Int} (h : R32 z) : (iI z).toInt64 = lI z := Int32.toInt64_ofInt h.1 (by have := h.2; show z ≤ 2147483647; omega)
theorem lI_i (z : Int) : (lI z).toInt32 = iI z := Int64.toInt32_ofInt
/-- a byte as a byte row holds it -/
def sb (n : Nat) : Int32 := (nI n).toInt8.toInt32
def fB (B : Nat → Nat) : Nat → Int32 := fun j => sb (B j)
def fI (P : Nat → Int) : Nat → Int32 := fun j => iI (P j)
def uB (B : Nat → Nat) (k v : Nat) : Nat → Nat := fun j => if j = k then v else B j
def uI (P : Nat → Int) (k : Nat) (v : Int) : Nat → Int := fun j => if j = k then v else P j
def uD (P : Nat → UInt64) (k : Nat) (v : UInt64) : Nat → UInt64 := fun j => if j = k then v else P j
def by8 (z : Int) : Nat := (z % 256).toNat
theorem by8_lt (z : Int) : by8 z < 256 := by unfold by8; omega
theorem by8_of {z : Int} (h : 0 ≤ z) (h1 : z < 256) : ((by8 z : Nat) : Int) = z := by unfold by8; omega
theorem sb_of (z : Int) : (iI z).toInt8.toInt32 = sb (by8 z) := by
  have h2 : (iI z).toInt8 = (nI (by8 z)).toInt8 := by
    show (Int32.ofInt z).toInt8 = (Int32.ofNat (by8 z)).toInt8
    rw [Int32.toInt8_ofInt, Int32.toInt8_ofNat']
    apply Int8.toInt_inj.mp
    rw [Int8.toInt_ofInt, Int8.toInt_ofNat']
    unfold by8
    rw [Int.toNat_of_nonneg (by omega)]
    exact (Int.emod_bmod z 256).symm
  rw [h2]; rfl
theorem sb_sb (n : Nat) : (sb n).toInt8.toInt32 = sb n := by unfold sb; simp
theorem sb_nar (n : Nat) : vp_nar .byte (sb n) = sb n := by rw [vp_nar_byte, sb_sb]
theorem sb_and {n : Nat} (h : n < 256) : sb n &&& 255 = iI n := (sc_k8 n h).trans (Int32.ofInt_eq_ofNat).symm
theorem sb_z : sb 0 = 0 := rfl
theorem fB_up (B : Nat → Nat) (k v : Nat) : upd (fB B) k (sb v) = fB (uB B k v) := by
  funext j; unfold upd fB uB; by_cases h : j = k <;> simp [h]
theorem fI_up (P : Nat → Int) (k : Nat) (v : Int) : upd (fI P) k (iI v) = fI (uI P k v) := by
  funext j; unfold upd fI uI; by_cases h : j = k <;> simp [h]
/-- a truth as an int -/
def tf (c : Prop) [Decidable c] : Int := if c then 1 else 0
theorem tf_R (c : Prop) [Decidable c] : R32 (tf c) := by unfold tf; split <;> decide
theorem tf_t {c : Prop} [Decidable c] (h : c) : tf c = 1 := if_pos h
theorem tf_f {c : Prop} [Decidable c] (h : ¬ c) : tf c = 0 := if_neg h
theorem tf_0 {c : Prop} [Decidable c] : tf c = 0 ↔ ¬ c := by unfold tf; split <;> simp_all
theorem tf_c {c d : Prop} [Decidable c] [Decidable d] (h : c ↔ d) : tf c = tf d := by unfold tf; simp [h]
theorem tf_nar (c : Prop) [Decidable c] : narrow .boolean (.int (iI (tf c))) = .int (iI (tf c)) := by unfold tf; split <;> rfl
theorem tf_fit (c : Prop) [Decidable c] : fits .boolean (.int (iI (tf c))) = true := by unfold tf; split <;> rfl
/-- the arrays' kinds: byte, int, double, long -/
abbrev GX : Type := (Nat → ClassId) × (Nat → Nat → Nat) × ClassId × ClassId × ClassId × ClassId
abbrev gD (G : GX) : va_G := (G.1, G.2.1)
abbrev gB (G : GX) : ClassId := G.2.2.1
abbrev gI (G : GX) : ClassId := G.2.2.2.1
abbrev gF (G : GX) : ClassId := G.2.2.2.2.1
abbrev gJ (G : GX) : ClassId := G.2.2.2.2.2
abbrev gT (G : GX) : List (ClassId × FieldType) := [(gB G, .byte), (gI G, .int), (gF G, .double), (gJ G, .long)]
/-- a word of the tables, good to be carried to any state -/
def TG (w : Cond) : Prop := w ∈ lw_tbl ∧ goodWord w = true
/-- the six links over the nest, in the form that travels -/
def nests : List (String × Nat × MethodName × String) := [(RX5, 9, yX1_init, "TokenReader"), (RX5, 45, yX3_init, "TokenReader"), (RX0, 120, yX5_scaled, "TokenReader"), (RX2, 67, yX5_digitOf, "TokenReader"), (RX4, 105, yX5_scaled, "TokenReader"), (RX4, 115, yX5_digitOf, "TokenReader")]
def TB (U : State) : Prop := (∀ w, TG w → ∀ a, w.before a U = true) ∧ ∀ q ∈ nests, va_Nw (.methodLinkNest q.1 q.2.1 q.2.2.1 q.2.2.2) U
theorem TB.moved {s U : State} (hW : s.WarmedH U.vm) (h : TB s) : TB U := ⟨fun w hw a => word_at hW (good_of_word hw.2) (h.1 w hw #[]), fun q hq => va_Nw.warmM hW (h.2 q hq)⟩
theorem TB.same {s U : State} (hv : s.vm = U.vm) (h : TB s) : TB U := ⟨fun w hw a => by
  rcases good_of_word hw.2 with h1 | ⟨ty, rfl⟩
  · exact va_tabs (Bool.and_eq_true _ _ ▸ h1 : _ ∧ _).1 hv (h.1 w hw #[])
  · exact h.1 _ hw a |> fun h2 => by
      have := h2
      simpa [Cond.before, Cond.holds, Cond.value, hv] using this, fun q hq => va_Nw.same rfl hv (h.2 q hq)⟩
def GK (G : GX) (U : State) : Prop := va_K (gD G) vwCl (gT G) U ∧ TB U
theorem GK.moved {G : GX} {s U : State} (hW : s.WarmedH U.vm) (h : GK G s) : GK G U := ⟨va_K.moved hW.alike h.1, h.2.moved hW⟩
theorem GK.same {G : GX} {s U : State} (hv : s.vm = U.vm) (h : GK G s) : GK G U := ⟨va_K.moved (by rw [hv]; exact Vm.Alike.refl _) h.1, h.2.same hv⟩
/-- the context -/
abbrev KX : Type := Program × Launch × Env × Room × State × MethodId × Array Value × List Frame × Method × Code × (Nat → Prop) × Heap × (State → Prop)
abbrev kp (K : KX) : Program := K.1
abbrev kl (K : KX) : Launch := K.2.1
abbrev ke (K : KX) : Env := K.2.2.1
abbrev kR (K : KX) : Room := K.2.2.2.1
abbrev ks (K : KX) : State := K.2.2.2.2.1
abbrev km (K : KX) : MethodId := K.2.2.2.2.2.1
abbrev ka (K : KX) : Array Value := K.2.2.2.2.2.2.1
abbrev kb (K : KX) : List Frame := K.2.2.2.2.2.2.2.1
abbrev kme (K : KX) : Method := K.2.2.2.2.2.2.2.2.1
abbrev kc (K : KX) : Code := K.2.2.2.2.2.2.2.2.2.1
abbrev kA (K : KX) : Nat → Prop := K.2.2.2.2.2.2.2.2.2.2.1
abbrev kH (K : KX) : Heap := K.2.2.2.2.2.2.2.2.2.2.2.1
abbrev kQ (K : KX) : State → Prop := K.2.2.2.2.2.2.2.2.2.2.2.2
abbrev kW (K : KX) (H : Heap) (locs : List Loc) (nc ns : Nat) (g : JFrame) : Prop := W (kp K) (kl K) (ke K) (kR K) (ks K) (km K) (ka K) (kb K) (kme K) (kc K) H locs nc ns (kQ K) g
def SW (K : KX) (G : GX) (nL nc ns pc : Nat) (lv : List (Nat × Value)) (st : List Value) (ws : va_W) : Prop :=
  ∀ (H : Heap) (locs : List Loc) (ls : Array Slot), va_P (gD G) vwCl ws H → va_D (kA K) ws → va_S (kA K) (kH K) H locs → lv_has ls nL lv → kW K H locs nc ns (F0 (km K) pc ls st)
def SK (K : KX) (G : GX) (R0 : Room) (cc : ByteArray) (nL : Nat) (own : String) : Prop :=
  (kp K).tables.exec = Jvm.exec ∧ (kc K).code = cc ∧ (kc K).maxLocals = nL ∧ (ks K).vm.findClass own = some (km K).cls ∧ GK G (ks K) ∧ (∀ q, (kH K).size ≤ q → kA K q) ∧ kR K = R0
theorem SK.tb {K : KX} {G : GX} {R0 : Room} {cc : ByteArray} {nL : Nat} {own : String} (X : SK K G R0 cc nL own) {w : Cond} (h : TG w) (a : Array Value) : w.before a (ks K) = true := X.2.2.2.2.1.2.1 w h a
section SROWS
variable {K : KX} {G : GX} {R0 : Room} {cc : ByteArray} {nL nc ns pc : Nat} {own : String} {lv : List (Nat × Value)} {st : List Value} {ws : va_W}
/-- fewer locals, other order -/
theorem s_locs {lv' : List (Nat × Value)} (ks9 : List Nat) (h : lv_pick lv ks9 = lv') (k : SW K G nL nc ns pc lv' st ws) : SW K G nL nc ns pc lv st ws := fun H locs ls hP hD hS hl => k H locs ls hP hD hS (lv_sub hl ks9 h)
/-- the cells in another order, or fewer -/
theorem s_perm {ws' : va_W} (is : List Nat) (hn : va_nd is = true) (h : is.map (fun i => ws[i]?) = ws'.map some) (h2 : is.filterMap (fun i => ws[i]?) = ws') (k : SW K G nL nc ns pc lv st ws') : SW K G nL nc ns pc lv st ws := fun H locs ls hP hD hS hl => k H locs ls (hP.sub is h2) (hD.sub is hn h) hS hl
theorem s_cast {st' : List Value} {ws' : va_W} {lv' : List (Nat × Value)} (h1 : st = st') (h2 : ws = ws') (h3 : lv = lv') (k : SW K G nL nc ns pc lv' st' ws') : SW K G nL nc ns pc lv st ws := by subst h1; subst h2; subst h3; exact k
theorem s_pc {pc' : Nat} (h : pc = pc') (k : SW K G nL nc ns pc' lv st ws) : SW K G nL nc ns pc lv st ws := by subst h; exact k
theorem s_widen {nc' ns' : Nat} (h1 : nc ≤ nc') (h2 : ns ≤ ns') (k : SW K G nL nc' ns' pc lv st ws) : SW K G nL nc ns pc lv st ws := fun H locs ls hP hD hS hl => W.widen h1 h2 (k H locs ls hP hD hS hl)
theorem s_iconst {n : Int} (X : SK K G R0 cc nL own) (d : decode cc pc = .ok (.iconst n, 1)) (k : SW K G nL nc ns (pc + 1) lv (.int (iI n) :: st) ws) : SW K G nL nc ns pc lv st ws := by
  intro H locs ls hP hD hS hl
  refine lv_iconst X.1 X.2.1 d rfl ?_
  exact k H locs ls hP hD hS hl
theorem s_bipush {n : Int} (z : Int) (X : SK K G R0 cc nL own) (d : decode cc pc = .ok (.bipush n, 2)) (hz : (Int8.ofInt n).toInt32 = iI z) (k : SW K G nL nc ns (pc + 2) lv (.int (iI z) :: st) ws) : SW K G nL nc ns pc lv st ws := by
  intro H locs ls hP hD hS hl
  refine lv_bipush X.1 X.2.1 d hz ?_
  exact k H locs ls hP hD hS hl
theorem s_sipush {n : Int} (z : Int) (X : SK K G R0 cc nL own) (d : decode cc pc = .ok (.sipush n, 3)) (hz : (Int16.ofInt n).toInt32 = iI z) (k : SW K G nL nc ns (pc + 3) lv (.int (iI z) :: st) ws) : SW K G nL nc ns pc lv st ws := by
  intro H locs ls hP hD hS hl
  refine lv_sipush X.1 X.2.1 d hz ?_
  exact k H locs ls hP hD hS hl
theorem s_lconst0 (X : SK K G R0 cc nL own) (d : decode cc pc = .ok (.lconst 0, 1)) (k : SW K G nL nc ns (pc + 1) lv (.long (lI 0) :: st) ws) : SW K G nL nc ns pc lv st ws := by
  intro H locs ls hP hD hS hl
  refine lv_lconst (v := lI 0) X.1 X.2.1 d rfl ?_
  exact k H locs ls hP hD hS hl
theorem s_lconst1 (X : SK K G R0 cc nL own) (d : decode cc pc = .ok (.lconst 1, 1)) (k : SW K G nL nc ns (pc + 1) lv (.long (lI 1) :: st) ws) : SW K G nL nc ns pc lv st ws := by
  intro H locs ls hP hD hS hl
  refine lv_lconst (v := lI 1) X.1 X.2.1 d rfl ?_
  exact k H locs ls hP hD hS hl
theorem s_dconst0 (X : SK K G R0 cc nL own) (d : decode cc pc = .ok (.dconst 0, 1)) (k : SW K G nL nc ns (pc + 1) lv (.double FP.dconst0 :: st) ws) : SW K G nL nc ns pc lv st ws := by
  intro H locs ls hP hD hS hl
  refine lv_dconst0 X.1 X.2.1 d ?_
  exact k H locs ls hP hD hS hl
theorem s_dconst1 (X : SK K G R0 cc nL own) (d : decode cc pc = .ok (.dconst 1, 1)) (k : SW K G nL nc ns (pc + 1) lv (.double FP.dconst1 :: st) ws) : SW K G nL nc ns pc lv st ws := by
  intro H locs ls hP hD hS hl
  refine lv_dconst1 X.1 X.2.1 d ?_
  exact k H locs ls hP hD hS hl
theorem s_null (X : SK K G R0 cc nL own) (d : decode cc pc = .ok (.aconst_null, 1)) (k : SW K G nL nc ns (pc + 1) lv (.null :: st) ws) : SW K G nL nc ns pc lv st ws := by
  intro H locs ls hP hD hS hl
  refine lv_null X.1 X.2.1 d ?_
  exact k H locs ls hP hD hS hl
theorem s_ldc {i : Nat} {v : Int32} (z : Int) (X : SK K G R0 cc nL own) (d : decode cc pc = .ok (.ldc i, 2)) (w : TG (.constant own i v)) (hz : v = iI z) (k : SW K G nL nc ns (pc + 2) lv (.int (iI z) :: st) ws) : SW K G nL nc ns pc lv st ws := by
  intro H locs ls hP hD hS hl
  refine lv_ldc X.1 X.2.1 X.2.2.2.1 (X.tb w _) d ?_
  rw [hz]
  exact k H locs ls hP hD hS hl
theorem s_ldc2 {i : Nat} {v : Int64} (z : Int) (X : SK K G R0 cc nL own) (d : decode cc pc = .ok (.ldc2_w i, 3)) (w : TG (.constantLong own i v)) (hz : v = lI z) (k : SW K G nL nc ns (pc + 3) lv (.long (lI z) :: st) ws) : SW K G nL nc ns pc lv st ws := by
  intro H locs ls hP hD hS hl
  refine lv_ldc2 X.1 X.2.1 X.2.2.2.1 (X.tb w _) d ?_
  rw [hz]
  exact k H locs ls hP hD hS hl
theorem s_ldc2d {i : Nat} {v : UInt64} (X : SK K G R0 cc nL own) (d : decode cc pc = .ok (.ldc2_w i, 3)) (w : TG (.constantDouble own i v)) (k : SW K G nL nc ns (pc + 3) lv (.double v :: st) ws) : SW K G nL nc ns pc lv st ws := by
  intro H locs ls hP hD hS hl
  refine lv_ldc2d X.1 X.2.1 X.2.2.2.1 (X.tb w _) d ?_
  exact k H locs ls hP hD hS hl
theorem s_iload_n {k9 : Fin 4} {i : Nat} {x : Int32} (X : SK K G R0 cc nL own) (d : decode cc pc = .ok (.iload_n k9, 1)) (hi : (k9 : Nat) = i) (j : Nat) (hj : lv[j]? = some (i, .int x)) (k : SW K G nL nc ns (pc + 1) lv (.int x :: st) ws) : SW K G nL nc ns pc lv st ws := by
  intro H locs ls hP hD hS hl
  refine lv_iload_n X.1 X.2.1 d hi (lv_at hl j hj) ?_
  exact k H locs ls hP hD hS hl
theorem s_iload {i : Nat} {x : Int32} (X : SK K G R0 cc nL own) (d : decode cc pc = .ok (.iload i, 2)) (j : Nat) (hj : lv[j]? = some (i, .int x)) (k : SW K G nL nc ns (pc + 2) lv (.int x :: st) ws) : SW K G nL nc ns pc lv st ws := by
  intro H locs ls hP hD hS hl
  refine lv_iload X.1 X.2.1 d (lv_at hl j hj) ?_
  exact k H locs ls hP hD hS hl
theorem s_istore_n {k9 : Fin 4} {i : Nat} {x : Int32} (X : SK K G R0 cc nL own) (d : decode cc pc = .ok (.istore_n k9, 1)) (hi : (k9 : Nat) = i) (lv9 : List (Nat × Value)) (hn : i < nL) (hl9 : (i, Value.int x) :: lv.filter (fun q => !(q.1 == i) && !(q.1 + 1 == i && q.2.category == 2)) = lv9) (k : SW K G nL nc ns (pc + 1) lv9 st ws) : SW K G nL nc ns pc lv (.int x :: st) ws := by
  intro H locs ls hP hD hS hl
  exact lv_istore_n X.1 X.2.1 d hi hl hn hl9 (fun ls9 h9 => k H locs ls9 hP hD hS h9)
theorem s_istore {i : Nat} {x : Int32} (X : SK K G R0 cc nL own) (d : decode cc pc = .ok (.istore i, 2)) (lv9 : List (Nat × Value)) (hn : i < nL) (hl9 : (i, Value.int x) :: lv.filter (fun q => !(q.1 == i) && !(q.1 + 1 == i && q.2.category == 2)) = lv9) (k : SW K G nL nc ns (pc + 2) lv9 st ws) : SW K G nL nc ns pc lv (.int x :: st) ws := by
  intro H locs ls hP hD hS hl
  exact lv_istore X.1 X.2.1 d hl hn hl9 (fun ls9 h9 => k H locs ls9 hP hD hS h9)
theorem s_lload_n {k9 : Fin 4} {i : Nat} {x : Int64} (X : SK K G R0 cc nL own) (d : decode cc pc = .ok (.lload_n k9, 1)) (hi : (k9 : Nat) = i) (j : Nat) (hj : lv[j]? = some (i, .long x)) (k : SW K G nL nc ns (pc + 1) lv (.long x :: st) ws) : SW K G nL nc ns pc lv st ws := by
  intro H locs ls hP hD hS hl
  refine lv_lload_n X.1 X.2.1 d hi (lv_at hl j hj) ?_
  exact k H locs ls hP hD hS hl
theorem s_lload {i : Nat} {x : Int64} (X : SK K G R0 cc nL own) (d : decode cc pc = .ok (.lload i, 2)) (j : Nat) (hj : lv[j]? = some (i, .long x)) (k : SW K G nL nc ns (pc + 2) lv (.long x :: st) ws) : SW K G nL nc ns pc lv st ws := by
  intro H locs ls hP hD hS hl
  refine lv_lload X.1 X.2.1 d (lv_at hl j hj) ?_
  exact k H locs ls hP hD hS hl
theorem s_lstore_n {k9 : Fin 4} {i : Nat} {x : Int64} (X : SK K G R0 cc nL own) (d : decode cc pc = .ok (.lstore_n k9, 1)) (hi : (k9 : Nat) = i) (lv9 : List (Nat × Value)) (hn : i + 1 < nL) (hl9 : (i, Value.long x) :: lv.filter (fun q => !(q.1 == i) && (!(q.1 == i + 1) && !(q.1 + 1 == i && q.2.category == 2))) = lv9) (k : SW K G nL nc ns (pc + 1) lv9 st ws) : SW K G nL nc ns pc lv (.long x :: st) ws := by
  intro H locs ls hP hD hS hl
  exact lv_lstore_n X.1 X.2.1 d hi hl hn hl9 (fun ls9 h9 => k H locs ls9 hP hD hS h9)
theorem s_lstore {i : Nat} {x : Int64} (X : SK K G R0 cc nL own) (d : decode cc pc = .ok (.lstore i, 2)) (lv9 : List (Nat × Value)) (hn : i + 1 < nL) (hl9 : (i, Value.long x) :: lv.filter (fun q => !(q.1 == i) && (!(q.1 == i + 1) && !(q.1 + 1 == i && q.2.category == 2))) = lv9) (k : SW K G nL nc ns (pc + 2) lv9 st ws) : SW K G nL nc ns pc lv (.long x :: st) ws := by
  intro H locs ls hP hD hS hl
  exact lv_lstore X.1 X.2.1 d hl hn hl9 (fun ls9 h9 => k H locs ls9 hP hD hS h9)
theorem s_dload_n {k9 : Fin 4} {i : Nat} {x : UInt64} (X : SK K G R0 cc nL own) (d : decode cc pc = .ok (.dload_n k9, 1)) (hi : (k9 : Nat) = i) (j : Nat) (hj : lv[j]? = some (i, .double x)) (k : SW K G nL nc ns (pc + 1) lv (.double x :: st) ws) : SW K G nL nc ns pc lv st ws := by
  intro H locs ls hP hD hS hl
  refine lv_dload_n X.1 X.2.1 d hi (lv_at hl j hj) ?_
  exact k H locs ls hP hD hS hl
theorem s_dload {i : Nat} {x : UInt64} (X : SK K G R0 cc nL own) (d : decode cc pc = .ok (.dload i, 2)) (j : Nat) (hj : lv[j]? = some (i, .double x)) (k : SW K G nL nc ns (pc + 2) lv (.double x :: st) ws) : SW K G nL nc ns pc lv st ws := by
  intro H locs ls hP hD hS hl
  refine lv_dload X.1 X.2.1 d (lv_at hl j hj) ?_
  exact k H locs ls hP hD hS hl
theorem s_dstore_n {k9 : Fin 4} {i : Nat} {x : UInt64} (X : SK K G R0 cc nL own) (d : decode cc pc = .ok (.dstore_n k9, 1)) (hi : (k9 : Nat) = i) (lv9 : List (Nat × Value)) (hn : i + 1 < nL) (hl9 : (i, Value.double x) :: lv.filter (fun q => !(q.1 == i) && (!(q.1 == i + 1) && !(q.1 + 1 == i && q.2.category == 2))) = lv9) (k : SW K G nL nc ns (pc + 1) lv9 st ws) : SW K G nL nc ns pc lv (.double x :: st) ws := by
  intro H locs ls hP hD hS hl
  exact lv_dstore_n X.1 X.2.1 d hi hl hn hl9 (fun ls9 h9 => k H locs ls9 hP hD hS h9)
theorem s_dstore {i : Nat} {x : UInt64} (X : SK K G R0 cc nL own) (d : decode cc pc = .ok (.dstore i, 2)) (lv9 : List (Nat × Value)) (hn : i + 1 < nL) (hl9 : (i, Value.double x) :: lv.filter (fun q => !(q.1 == i) && (!(q.1 == i + 1) && !(q.1 + 1 == i && q.2.category == 2))) = lv9) (k : SW K G nL nc ns (pc + 2) lv9 st ws) : SW K G nL nc ns pc lv (.double x :: st) ws := by
  intro H locs ls hP hD hS hl
  exact lv_dstore X.1 X.2.1 d hl hn hl9 (fun ls9 h9 => k H locs ls9 hP hD hS h9)
theorem s_aload_n {k9 : Fin 4} {i : Nat} {x : Nat} (X : SK K G R0 cc nL own) (d : decode cc pc = .ok (.aload_n k9, 1)) (hi : (k9 : Nat) = i) (j : Nat) (hj : lv[j]? = some (i, .ref x)) (k : SW K G nL nc ns (pc + 1) lv (.ref x :: st) ws) : SW K G nL nc ns pc lv st ws := by
  intro H locs ls hP hD hS hl
  refine lv_aload_n X.1 X.2.1 d hi (lv_at hl j hj) ?_
  exact k H locs ls hP hD hS hl
theorem s_aload {i : Nat} {x : Nat} (X : SK K G R0 cc nL own) (d : decode cc pc = .ok (.aload i, 2)) (j : Nat) (hj : lv[j]? = some (i, .ref x)) (k : SW K G nL nc ns (pc + 2) lv (.ref x :: st) ws) : SW K G nL nc ns pc lv st ws := by
  intro H locs ls hP hD hS hl
  refine lv_aload X.1 X.2.1 d (lv_at hl j hj) ?_
  exact k H locs ls hP hD hS hl
theorem s_astore_n {k9 : Fin 4} {i : Nat} {x : Nat} (X : SK K G R0 cc nL own) (d : decode cc pc = .ok (.astore_n k9, 1)) (hi : (k9 : Nat) = i) (lv9 : List (Nat × Value)) (hn : i < nL) (hl9 : (i, Value.ref x) :: lv.filter (fun q => !(q.1 == i) && !(q.1 + 1 == i && q.2.category == 2)) = lv9) (k : SW K G nL nc ns (pc + 1) lv9 st ws) : SW K G nL nc ns pc lv (.ref x :: st) ws := by
  intro H locs ls hP hD hS hl
  exact lv_astore_n X.1 X.2.1 d hi hl hn hl9 (fun ls9 h9 => k H locs ls9 hP hD hS h9)
theorem s_astore {i : Nat} {x : Nat} (X : SK K G R0 cc nL own) (d : decode cc pc = .ok (.astore i, 2)) (lv9 : List (Nat × Value)) (hn : i < nL) (hl9 : (i, Value.ref x) :: lv.filter (fun q => !(q.1 == i) && !(q.1 + 1 == i && q.2.category == 2)) = lv9) (k : SW K G nL nc ns (pc + 2) lv9 st ws) : SW K G nL nc ns pc lv (.ref x :: st) ws := by
  intro H locs ls hP hD hS hl
  exact lv_astore X.1 X.2.1 d hl hn hl9 (fun ls9 h9 => k H locs ls9 hP hD hS h9)
theorem s_iinc {i : Nat} {n : Int} {x z : Int} (X : SK K G R0 cc nL own) (d : decode cc pc = .ok (.iinc i n, 3)) (j : Nat) (hj : lv[j]? = some (i, .int (iI x))) (hz : x + n = z) (lv9 : List (Nat × Value)) (hn : i < nL) (hl9 : (i, Value.int (iI z)) :: lv.filter (fun q => !(q.1 == i) && !(q.1 + 1 == i && q.2.category == 2)) = lv9) (k : SW K G nL nc ns (pc + 3) lv9 st ws) : SW K G nL nc ns pc lv st ws := by
  intro H locs ls hP hD hS hl
  exact lv_iinc X.1 X.2.1 d hl hj (by show iI x + iI n = iI z; rw [iI_add, hz]) hn hl9 (fun ls9 h9 => k H locs ls9 hP hD hS h9)
theorem s_iadd {a b : Int} (X : SK K G R0 cc nL own) (d : decode cc pc = .ok (.iadd, 1)) (k : SW K G nL nc ns (pc + 1) lv (.int (iI (a + b)) :: st) ws) : SW K G nL nc ns pc lv (.int (iI b) :: .int (iI a) :: st) ws := by
  intro H locs ls hP hD hS hl
  refine lv_iadd X.1 X.2.1 d ?_
  rw [iI_add]
  exact k H locs ls hP hD hS hl
theorem s_ladd {a b : Int} (X : SK K G R0 cc nL own) (d : decode cc pc = .ok (.ladd, 1)) (k : SW K G nL nc ns (pc + 1) lv (.long (lI (a + b)) :: st) ws) : SW K G nL nc ns pc lv (.long (lI b) :: .long (lI a) :: st) ws := by
  intro H locs ls hP hD hS hl
  refine lv_ladd X.1 X.2.1 d ?_
  rw [lI_add]
  exact k H locs ls hP hD hS hl
theorem s_isub {a b : Int} (X : SK K G R0 cc nL own) (d : decode cc pc = .ok (.isub, 1)) (k : SW K G nL nc ns (pc + 1) lv (.int (iI (a - b)) :: st) ws) : SW K G nL nc ns pc lv (.int (iI b) :: .int (iI a) :: st) ws := by
  intro H locs ls hP hD hS hl
  refine lv_isub X.1 X.2.1 d ?_
  rw [iI_sub]
  exact k H locs ls hP hD hS hl
theorem s_lsub {a b : Int} (X : SK K G R0 cc nL own) (d : decode cc pc = .ok (.lsub, 1)) (k : SW K G nL nc ns (pc + 1) lv (.long (lI (a - b)) :: st) ws) : SW K G nL nc ns pc lv (.long (lI b) :: .long (lI a) :: st) ws := by
  intro H locs ls hP hD hS hl
  refine lv_lsub X.1 X.2.1 d ?_
  rw [lI_sub]
  exact k H locs ls hP hD hS hl
theorem s_imul {a b : Int} (X : SK K G R0 cc nL own) (d : decode cc pc = .ok (.imul, 1)) (k : SW K G nL nc ns (pc + 1) lv (.int (iI (a * b)) :: st) ws) : SW K G nL nc ns pc lv (.int (iI b) :: .int (iI a) :: st) ws := by
  intro H locs ls hP hD hS hl
  refine lv_imul X.1 X.2.1 d ?_
  rw [iI_mul]
  exact k H locs ls hP hD hS hl
theorem s_lmul {a b : Int} (X : SK K G R0 cc nL own) (d : decode cc pc = .ok (.lmul, 1)) (k : SW K G nL nc ns (pc + 1) lv (.long (lI (a * b)) :: st) ws) : SW K G nL nc ns pc lv (.long (lI b) :: .long (lI a) :: st) ws := by
  intro H locs ls hP hD hS hl
  refine lv_lmul X.1 X.2.1 d ?_
  rw [lI_mul]
  exact k H locs ls hP hD hS hl
theorem s_ineg {a : Int} (X : SK K G R0 cc nL own) (d : decode cc pc = .ok (.ineg, 1)) (k : SW K G nL nc ns (pc + 1) lv (.int (iI (-a)) :: st) ws) : SW K G nL nc ns pc lv (.int (iI a) :: st) ws := by
  intro H locs ls hP hD hS hl
  refine lv_ineg X.1 X.2.1 d ?_
  rw [iI_neg]
  exact k H locs ls hP hD hS hl
theorem s_lneg {a : Int} (X : SK K G R0 cc nL own) (d : decode cc pc = .ok (.lneg, 1)) (k : SW K G nL nc ns (pc + 1) lv (.long (lI (-a)) :: st) ws) : SW K G nL nc ns pc lv (.long (lI a) :: st) ws := by
  intro H locs ls hP hD hS hl
  refine lv_lneg X.1 X.2.1 d ?_
  rw [lI_neg]
  exact k H locs ls hP hD hS hl
theorem s_iand {x y : Int32} {z : Int} (X : SK K G R0 cc nL own) (d : decode cc pc = .ok (.iand, 1)) (hz : x &&& y = iI z) (k : SW K G nL nc ns (pc + 1) lv (.int (iI z) :: st) ws) : SW K G nL nc ns pc lv (.int y :: .int x :: st) ws := by
  intro H locs ls hP hD hS hl
  refine lv_iand X.1 X.2.1 d ?_
  rw [hz]
  exact k H locs ls hP hD hS hl
theorem s_ior {x y : Int32} {z : Int} (X : SK K G R0 cc nL own) (d : decode cc pc = .ok (.ior, 1)) (hz : x ||| y = iI z) (k : SW K G nL nc ns (pc + 1) lv (.int (iI z) :: st) ws) : SW K G nL nc ns pc lv (.int y :: .int x :: st) ws := by
  intro H locs ls hP hD hS hl
  refine lv_ior X.1 X.2.1 d ?_
  rw [hz]
  exact k H locs ls hP hD hS hl
theorem s_ishl {x y : Int32} {z : Int} (X : SK K G R0 cc nL own) (d : decode cc pc = .ok (.ishl, 1)) (hz : x <<< (y &&& 31) = iI z) (k : SW K G nL nc ns (pc + 1) lv (.int (iI z) :: st) ws) : SW K G nL nc ns pc lv (.int y :: .int x :: st) ws := by
  intro H locs ls hP hD hS hl
  refine lv_ishl X.1 X.2.1 d ?_
  rw [hz]
  exact k H locs ls hP hD hS hl
theorem s_ishr {x y : Int32} {z : Int} (X : SK K G R0 cc nL own) (d : decode cc pc = .ok (.ishr, 1)) (hz : x >>> (y &&& 31) = iI z) (k : SW K G nL nc ns (pc + 1) lv (.int (iI z) :: st) ws) : SW K G nL nc ns pc lv (.int y :: .int x :: st) ws := by
  intro H locs ls hP hD hS hl
  refine lv_ishr X.1 X.2.1 d ?_
  rw [hz]
  exact k H locs ls hP hD hS hl
theorem s_iushr {x y : Int32} {z : Int} (X : SK K G R0 cc nL own) (d : decode cc pc = .ok (.iushr, 1)) (hz : (x.toUInt32 >>> (y.toUInt32 &&& Int32.toUInt32 31)).toInt32 = iI z) (k : SW K G nL nc ns (pc + 1) lv (.int (iI z) :: st) ws) : SW K G nL nc ns pc lv (.int y :: .int x :: st) ws := by
  intro H locs ls hP hD hS hl
  refine lv_iushr X.1 X.2.1 d hz ?_
  exact k H locs ls hP hD hS hl
theorem s_land {x y : Int64} {z : Int} (X : SK K G R0 cc nL own) (d : decode cc pc = .ok (.land, 1)) (hz : x &&& y = lI z) (k : SW K G nL nc ns (pc + 1) lv (.long (lI z) :: st) ws) : SW K G nL nc ns pc lv (.long y :: .long x :: st) ws := by
  intro H locs ls hP hD hS hl
  refine lv_land X.1 X.2.1 d ?_
  rw [hz]
  exact k H locs ls hP hD hS hl
theorem s_lshr {x : Int64} {y : Int32} {z : Int} (X : SK K G R0 cc nL own) (d : decode cc pc = .ok (.lshr, 1)) (hz : x >>> (y.toInt64 &&& 63) = lI z) (k : SW K G nL nc ns (pc + 1) lv (.long (lI z) :: st) ws) : SW K G nL nc ns pc lv (.int y :: .long x :: st) ws := by
  intro H locs ls hP hD hS hl
  refine lv_lshr X.1 X.2.1 d hz ?_
  exact k H locs ls hP hD hS hl
theorem s_i2l {a : Int} (X : SK K G R0 cc nL own) (d : decode cc pc = .ok (.i2l, 1)) (ha : R32 a) (k : SW K G nL nc ns (pc + 1) lv (.long (lI a) :: st) ws) : SW K G nL nc ns pc lv (.int (iI a) :: st) ws := by
  intro H locs ls hP hD hS hl
  refine lv_i2l X.1 X.2.1 d (iI_l ha) ?_
  exact k H locs ls hP hD hS hl
theorem s_l2i {a : Int} (X : SK K G R0 cc nL own) (d : decode cc pc = .ok (.l2i, 1)) (k : SW K G nL nc ns (pc + 1) lv (.int (iI a) :: st) ws) : SW K G nL nc ns pc lv (.long (lI a) :: st) ws := by
  intro H locs ls hP hD hS hl
  refine lv_l2i X.1 X.2.1 d (lI_i a) ?_
  exact k H locs ls hP hD hS hl
theorem s_i2b {a : Int} (X : SK K G R0 cc nL own) (d : decode cc pc = .ok (.i2b, 1)) (k : SW K G nL nc ns (pc + 1) lv (.int (sb (by8 a)) :: st) ws) : SW K G nL nc ns pc lv (.int (iI a) :: st) ws := by
  intro H locs ls hP hD hS hl
  refine lv_i2b X.1 X.2.1 d (sb_of a) ?_
  exact k H locs ls hP hD hS hl
theorem s_i2d {x : Int32} (X : SK K G R0 cc nL own) (d : decode cc pc = .ok (.i2d, 1)) (k : SW K G nL nc ns (pc + 1) lv (.double (FP.i2d x) :: st) ws) : SW K G nL nc ns pc lv (.int x :: st) ws := by
  intro H locs ls hP hD hS hl
  refine lv_i2d X.1 X.2.1 d ?_
  exact k H locs ls hP hD hS hl
theorem s_l2d {x : Int64} (X : SK K G R0 cc nL own) (d : decode cc pc = .ok (.l2d, 1)) (k : SW K G nL nc ns (pc + 1) lv (.double (FP.l2d x) :: st) ws) : SW K G nL nc ns pc lv (.long x :: st) ws := by
  intro H locs ls hP hD hS hl
  refine lv_l2d X.1 X.2.1 d ?_
  exact k H locs ls hP hD hS hl
theorem s_dadd {x y : UInt64} (X : SK K G R0 cc nL own) (d : decode cc pc = .ok (.dadd, 1)) (hne : vf_n64 (FP.dadd x y)) (k : SW K G nL nc ns (pc + 1) lv (.double (FP.dadd x y) :: st) ws) : SW K G nL nc ns pc lv (.double y :: .double x :: st) ws := by
  intro H locs ls hP hD hS hl
  refine lv_dadd X.1 X.2.1 d hne ?_
  exact k H locs ls hP hD hS hl
theorem s_dsub {x y : UInt64} (X : SK K G R0 cc nL own) (d : decode cc pc = .ok (.dsub, 1)) (hne : vf_n64 (FP.dsub x y)) (k : SW K G nL nc ns (pc + 1) lv (.double (FP.dsub x y) :: st) ws) : SW K G nL nc ns pc lv (.double y :: .double x :: st) ws := by
  intro H locs ls hP hD hS hl
  refine lv_dsub X.1 X.2.1 d hne ?_
  exact k H locs ls hP hD hS hl
theorem s_dmul {x y : UInt64} (X : SK K G R0 cc nL own) (d : decode cc pc = .ok (.dmul, 1)) (hne : vf_n64 (FP.dmul x y)) (k : SW K G nL nc ns (pc + 1) lv (.double (FP.dmul x y) :: st) ws) : SW K G nL nc ns pc lv (.double y :: .double x :: st) ws := by
  intro H locs ls hP hD hS hl
  refine lv_dmul X.1 X.2.1 d hne ?_
  exact k H locs ls hP hD hS hl
theorem s_ddiv {x y : UInt64} (X : SK K G R0 cc nL own) (d : decode cc pc = .ok (.ddiv, 1)) (hne : vf_n64 (FP.ddiv x y)) (k : SW K G nL nc ns (pc + 1) lv (.double (FP.ddiv x y) :: st) ws) : SW K G nL nc ns pc lv (.double y :: .double x :: st) ws := by
  intro H locs ls hP hD hS hl
  refine lv_ddiv X.1 X.2.1 d hne ?_
  exact k H locs ls hP hD hS hl
theorem s_dcmp {x y : UInt64} {op : CmpOp} (X : SK K G R0 cc nL own) (d : decode cc pc = .ok (.dcmp op, 1)) (k : SW K G nL nc ns (pc + 1) lv (.int (Op.cmpValue (FP.dcmp x y) op) :: st) ws) : SW K G nL nc ns pc lv (.double y :: .double x :: st) ws := by
  intro H locs ls hP hD hS hl
  refine lv_dcmp X.1 X.2.1 d ?_
  exact k H locs ls hP hD hS hl
theorem s_lcmp {x y : Int64} (X : SK K G R0 cc nL own) (d : decode cc pc = .ok (.lcmp, 1)) (k : SW K G nL nc ns (pc + 1) lv (.int (lg_cmp x y) :: st) ws) : SW K G nL nc ns pc lv (.long y :: .long x :: st) ws := by
  intro H locs ls hP hD hS hl
  refine W.lcmp X.1 X.2.1 d ?_
  exact k H locs ls hP hD hS hl
theorem s_dup {v : Value} (X : SK K G R0 cc nL own) (d : decode cc pc = .ok (.dup, 1)) (hv : v.category = 1) (k : SW K G nL nc ns (pc + 1) lv (v :: v :: st) ws) : SW K G nL nc ns pc lv (v :: st) ws := by
  intro H locs ls hP hD hS hl
  refine lv_dup X.1 X.2.1 d hv ?_
  exact k H locs ls hP hD hS hl
theorem s_pop {v : Value} (X : SK K G R0 cc nL own) (d : decode cc pc = .ok (.pop, 1)) (hv : v.category = 1) (k : SW K G nL nc ns (pc + 1) lv st ws) : SW K G nL nc ns pc lv (v :: st) ws := by
  intro H locs ls hP hD hS hl
  refine lv_pop X.1 X.2.1 d hv ?_
  exact k H locs ls hP hD hS hl
theorem s_goto {off : Int} (X : SK K G R0 cc nL own) (tgt : Nat) (d : decode cc pc = .ok (.goto off, 3)) (ht : (pc : Int) + off = (tgt : Int)) (k : SW K G nL nc ns tgt lv st ws) : SW K G nL nc ns pc lv st ws := by
  intro H locs ls hP hD hS hl
  exact lv_goto X.1 X.2.1 d ht (k H locs ls hP hD hS hl)
theorem s_icmp_eq {off : Int} {a b : Int} (X : SK K G R0 cc nL own) (tgt : Nat) (d : decode cc pc = .ok (.if_icmp .eq off, 3)) (ht : (pc : Int) + off = (tgt : Int)) (hr : R32 a ∧ R32 b) (kt : a = b → SW K G nL nc ns tgt lv st ws) (kf : ¬ a = b → SW K G nL nc ns (pc + 3) lv st ws) : SW K G nL nc ns pc lv (.int (iI b) :: .int (iI a) :: st) ws := by
  intro H locs ls hP hD hS hl
  refine lv_icmp_eq X.1 X.2.1 d ht (fun h => kt ?_ H locs ls hP hD hS hl) (fun h => kf ?_ H locs ls hP hD hS hl)
  all_goals (first | rw [iI_eq hr.1 hr.2] at h | rw [iI_lt hr.1 hr.2] at h | rw [iI_le hr.1 hr.2] at h | rw [iI_lt hr.2 hr.1] at h | rw [iI_le hr.2 hr.1] at h | skip); omega
theorem s_if_eq {off : Int} {a : Int} (X : SK K G R0 cc nL own) (tgt : Nat) (d : decode cc pc = .ok (.ifCond .eq off, 3)) (ht : (pc : Int) + off = (tgt : Int)) (hr : R32 a) (kt : a = 0 → SW K G nL nc ns tgt lv st ws) (kf : ¬ a = 0 → SW K G nL nc ns (pc + 3) lv st ws) : SW K G nL nc ns pc lv (.int (iI a) :: st) ws := by
  have h0 : R32 0 := by decide
  intro H locs ls hP hD hS hl
  refine lv_if_eq X.1 X.2.1 d ht (fun h => kt ?_ H locs ls hP hD hS hl) (fun h => kf ?_ H locs ls hP hD hS hl)
  all_goals rw [← iI_0] at h
  all_goals (first | rw [iI_eq hr h0] at h | rw [iI_lt hr h0] at h | rw [iI_le hr h0] at h | rw [iI_lt h0 hr] at h | rw [iI_le h0 hr] at h | skip); omega
theorem s_icmp_ne {off : Int} {a b : Int} (X : SK K G R0 cc nL own) (tgt : Nat) (d : decode cc pc = .ok (.if_icmp .ne off, 3)) (ht : (pc : Int) + off = (tgt : Int)) (hr : R32 a ∧ R32 b) (kt : ¬ a = b → SW K G nL nc ns tgt lv st ws) (kf : a = b → SW K G nL nc ns (pc + 3) lv st ws) : SW K G nL nc ns pc lv (.int (iI b) :: .int (iI a) :: st) ws := by
  intro H locs ls hP hD hS hl
  refine lv_icmp_ne X.1 X.2.1 d ht (fun h => kt ?_ H locs ls hP hD hS hl) (fun h => kf ?_ H locs ls hP hD hS hl)
  all_goals (first | rw [iI_eq hr.1 hr.2] at h | rw [iI_lt hr.1 hr.2] at h | rw [iI_le hr.1 hr.2] at h | rw [iI_lt hr.2 hr.1] at h | rw [iI_le hr.2 hr.1] at h | skip); omega
theorem s_if_ne {off : Int} {a : Int} (X : SK K G R0 cc nL own) (tgt : Nat) (d : decode cc pc = .ok (.ifCond .ne off, 3)) (ht : (pc : Int) + off = (tgt : Int)) (hr : R32 a) (kt : ¬ a = 0 → SW K G nL nc ns tgt lv st ws) (kf : a = 0 → SW K G nL nc ns (pc + 3) lv st ws) : SW K G nL nc ns pc lv (.int (iI a) :: st) ws := by
  have h0 : R32 0 := by decide
  intro H locs ls hP hD hS hl
  refine lv_if_ne X.1 X.2.1 d ht (fun h => kt ?_ H locs ls hP hD hS hl) (fun h => kf ?_ H locs ls hP hD hS hl)
  all_goals rw [← iI_0] at h
  all_goals (first | rw [iI_eq hr h0] at h | rw [iI_lt hr h0] at h | rw [iI_le hr h0] at h | rw [iI_lt h0 hr] at h | rw [iI_le h0 hr] at h | skip); omega
theorem s_icmp_lt {off : Int} {a b : Int} (X : SK K G R0 cc nL own) (tgt : Nat) (d : decode cc pc = .ok (.if_icmp .lt off, 3)) (ht : (pc : Int) + off = (tgt : Int)) (hr : R32 a ∧ R32 b) (kt : a < b → SW K G nL nc ns tgt lv st ws) (kf : b ≤ a → SW K G nL nc ns (pc + 3) lv st ws) : SW K G nL nc ns pc lv (.int (iI b) :: .int (iI a) :: st) ws := by
  intro H locs ls hP hD hS hl
  refine lv_icmp_lt X.1 X.2.1 d ht (fun h => kt ?_ H locs ls hP hD hS hl) (fun h => kf ?_ H locs ls hP hD hS hl)
  all_goals (first | rw [iI_eq hr.1 hr.2] at h | rw [iI_lt hr.1 hr.2] at h | rw [iI_le hr.1 hr.2] at h | rw [iI_lt hr.2 hr.1] at h | rw [iI_le hr.2 hr.1] at h | skip); omega
theorem s_if_lt {off : Int} {a : Int} (X : SK K G R0 cc nL own) (tgt : Nat) (d : decode cc pc = .ok (.ifCond .lt off, 3)) (ht : (pc : Int) + off = (tgt : Int)) (hr : R32 a) (kt : a < 0 → SW K G nL nc ns tgt lv st ws) (kf : 0 ≤ a → SW K G nL nc ns (pc + 3) lv st ws) : SW K G nL nc ns pc lv (.int (iI a) :: st) ws := by
  have h0 : R32 0 := by decide
  intro H locs ls hP hD hS hl
  refine lv_if_lt X.1 X.2.1 d ht (fun h => kt ?_ H locs ls hP hD hS hl) (fun h => kf ?_ H locs ls hP hD hS hl)
  all_goals rw [← iI_0] at h
  all_goals (first | rw [iI_eq hr h0] at h | rw [iI_lt hr h0] at h | rw [iI_le hr h0] at h | rw [iI_lt h0 hr] at h | rw [iI_le h0 hr] at h | skip); omega
theorem s_icmp_ge {off : Int} {a b : Int} (X : SK K G R0 cc nL own) (tgt : Nat) (d : decode cc pc = .ok (.if_icmp .ge off, 3)) (ht : (pc : Int) + off = (tgt : Int)) (hr : R32 a ∧ R32 b) (kt : b ≤ a → SW K G nL nc ns tgt lv st ws) (kf : a < b → SW K G nL nc ns (pc + 3) lv st ws) : SW K G nL nc ns pc lv (.int (iI b) :: .int (iI a) :: st) ws := by
  intro H locs ls hP hD hS hl
  refine lv_icmp_ge X.1 X.2.1 d ht (fun h => kt ?_ H locs ls hP hD hS hl) (fun h => kf ?_ H locs ls hP hD hS hl)
  all_goals (first | rw [iI_eq hr.1 hr.2] at h | rw [iI_lt hr.1 hr.2] at h | rw [iI_le hr.1 hr.2] at h | rw [iI_lt hr.2 hr.1] at h | rw [iI_le hr.2 hr.1] at h | skip); omega
theorem s_if_ge {off : Int} {a : Int} (X : SK K G R0 cc nL own) (tgt : Nat) (d : decode cc pc = .ok (.ifCond .ge off, 3)) (ht : (pc : Int) + off = (tgt : Int)) (hr : R32 a) (kt : 0 ≤ a → SW K G nL nc ns tgt lv st ws) (kf : a < 0 → SW K G nL nc ns (pc + 3) lv st ws) : SW K G nL nc ns pc lv (.int (iI a) :: st) ws := by
  have h0 : R32 0 := by decide
  intro H locs ls hP hD hS hl
  refine lv_if_ge X.1 X.2.1 d ht (fun h => kt ?_ H locs ls hP hD hS hl) (fun h => kf ?_ H locs ls hP hD hS hl)
  all_goals rw [← iI_0] at h
  all_goals (first | rw [iI_eq hr h0] at h | rw [iI_lt hr h0] at h | rw [iI_le hr h0] at h | rw [iI_lt h0 hr] at h | rw [iI_le h0 hr] at h | skip); omega
theorem s_icmp_gt {off : Int} {a b : Int} (X : SK K G R0 cc nL own) (tgt : Nat) (d : decode cc pc = .ok (.if_icmp .gt off, 3)) (ht : (pc : Int) + off = (tgt : Int)) (hr : R32 a ∧ R32 b) (kt : b < a → SW K G nL nc ns tgt lv st ws) (kf : a ≤ b → SW K G nL nc ns (pc + 3) lv st ws) : SW K G nL nc ns pc lv (.int (iI b) :: .int (iI a) :: st) ws := by
  intro H locs ls hP hD hS hl
  refine lv_icmp_gt X.1 X.2.1 d ht (fun h => kt ?_ H locs ls hP hD hS hl) (fun h => kf ?_ H locs ls hP hD hS hl)
  all_goals (first | rw [iI_eq hr.1 hr.2] at h | rw [iI_lt hr.1 hr.2] at h | rw [iI_le hr.1 hr.2] at h | rw [iI_lt hr.2 hr.1] at h | rw [iI_le hr.2 hr.1] at h | skip); omega
theorem s_if_gt {off : Int} {a : Int} (X : SK K G R0 cc nL own) (tgt : Nat) (d : decode cc pc = .ok (.ifCond .gt off, 3)) (ht : (pc : Int) + off = (tgt : Int)) (hr : R32 a) (kt : 0 < a → SW K G nL nc ns tgt lv st ws) (kf : a ≤ 0 → SW K G nL nc ns (pc + 3) lv st ws) : SW K G nL nc ns pc lv (.int (iI a) :: st) ws := by
  have h0 : R32 0 := by decide
  intro H locs ls hP hD hS hl
  refine lv_if_gt X.1 X.2.1 d ht (fun h => kt ?_ H locs ls hP hD hS hl) (fun h => kf ?_ H locs ls hP hD hS hl)
  all_goals rw [← iI_0] at h
  all_goals (first | rw [iI_eq hr h0] at h | rw [iI_lt hr h0] at h | rw [iI_le hr h0] at h | rw [iI_lt h0 hr] at h | rw [iI_le h0 hr] at h | skip); omega
theorem s_icmp_le {off : Int} {a b : Int} (X : SK K G R0 cc nL own) (tgt : Nat) (d : decode cc pc = .ok (.if_icmp .le off, 3)) (ht : (pc : Int) + off = (tgt : Int)) (hr : R32 a ∧ R32 b) (kt : a ≤ b → SW K G nL nc ns tgt lv st ws) (kf : b < a → SW K G nL nc ns (pc + 3) lv st ws) : SW K G nL nc ns pc lv (.int (iI b) :: .int (iI a) :: st) ws := by
  intro H locs ls hP hD hS hl
  refine lv_icmp_le X.1 X.2.1 d ht (fun h => kt ?_ H locs ls hP hD hS hl) (fun h => kf ?_ H locs ls hP hD hS hl)
  all_goals (first | rw [iI_eq hr.1 hr.2] at h | rw [iI_lt hr.1 hr.2] at h | rw [iI_le hr.1 hr.2] at h | rw [iI_lt hr.2 hr.1] at h | rw [iI_le hr.2 hr.1] at h | skip); omega
theorem s_if_le {off : Int} {a : Int} (X : SK K G R0 cc nL own) (tgt : Nat) (d : decode cc pc = .ok (.ifCond .le off, 3)) (ht : (pc : Int) + off = (tgt : Int)) (hr : R32 a) (kt : a ≤ 0 → SW K G nL nc ns tgt lv st ws) (kf : 0 < a → SW K G nL nc ns (pc + 3) lv st ws) : SW K G nL nc ns pc lv (.int (iI a) :: st) ws := by
  have h0 : R32 0 := by decide
  intro H locs ls hP hD hS hl
  refine lv_if_le X.1 X.2.1 d ht (fun h => kt ?_ H locs ls hP hD hS hl) (fun h => kf ?_ H locs ls hP hD hS hl)
  all_goals rw [← iI_0] at h
  all_goals (first | rw [iI_eq hr h0] at h | rw [iI_lt hr h0] at h | rw [iI_le hr h0] at h | rw [iI_lt h0 hr] at h | rw [iI_le h0 hr] at h | skip); omega
theorem s_tf_eq {off : Int} {c : Prop} [Decidable c] (X : SK K G R0 cc nL own) (tgt : Nat) (d : decode cc pc = .ok (.ifCond .eq off, 3)) (ht : (pc : Int) + off = (tgt : Int)) (kt : ¬ c → SW K G nL nc ns tgt lv st ws) (kf : c → SW K G nL nc ns (pc + 3) lv st ws) : SW K G nL nc ns pc lv (.int (iI (tf c)) :: st) ws := by
  refine s_if_eq X tgt d ht (tf_R c) (fun h => kt ?_) (fun h => kf ?_)
  all_goals (by_cases hc : c <;> simp_all [tf])
theorem s_tf_ne {off : Int} {c : Prop} [Decidable c] (X : SK K G R0 cc nL own) (tgt : Nat) (d : decode cc pc = .ok (.ifCond .ne off, 3)) (ht : (pc : Int) + off = (tgt : Int)) (kt : c → SW K G nL nc ns tgt lv st ws) (kf : ¬ c → SW K G nL nc ns (pc + 3) lv st ws) : SW K G nL nc ns pc lv (.int (iI (tf c)) :: st) ws := by
  refine s_if_ne X tgt d ht (tf_R c) (fun h => kt ?_) (fun h => kf ?_)
  all_goals (by_cases hc : c <;> simp_all [tf])
theorem s_lookup {dflt : Int} {ps : Array (Int × Int)} {len : Nat} {z off : Int} (X : SK K G R0 cc nL own) (tgt : Nat) (d : decode cc pc = .ok (.lookupswitch dflt ps, len)) (hp : (ps.toList.zip (ps.toList.drop 1)).all (fun (a, next) => a.1 < next.1) = true) (hr : R32 z) (ho : Op.lookupswitch.offset ps.toList dflt z = off) (ht : (pc : Int) + off = (tgt : Int)) (k : SW K G nL nc ns tgt lv st ws) : SW K G nL nc ns pc lv (.int (iI z) :: st) ws := by
  intro H locs ls hP hD hS hl
  exact lv_lookup X.1 X.2.1 d hp (by rw [iI_toInt hr]; exact ho) ht (k H locs ls hP hD hS hl)
theorem s_tableIn {dflt lo hi : Int} {offs : Array Int} {len : Nat} {z off : Int} (X : SK K G R0 cc nL own) (tgt : Nat) (d : decode cc pc = .ok (.tableswitch dflt lo hi offs, len)) (hr : R32 z) (h1 : ¬ z < lo) (h2 : ¬ hi < z) (ho : offs[(z - lo).toNat]? = some off) (ht : (pc : Int) + off = (tgt : Int)) (k : SW K G nL nc ns tgt lv st ws) : SW K G nL nc ns pc lv (.int (iI z) :: st) ws := by
  intro H locs ls hP hD hS hl
  exact lv_tableIn X.1 X.2.1 d (by rw [iI_toInt hr]; exact h1) (by rw [iI_toInt hr]; exact h2) (by rw [iI_toInt hr]; exact ho) ht (k H locs ls hP hD hS hl)
theorem s_tableOut {dflt lo hi : Int} {offs : Array Int} {len : Nat} {z : Int} (X : SK K G R0 cc nL own) (tgt : Nat) (d : decode cc pc = .ok (.tableswitch dflt lo hi offs, len)) (hr : R32 z) (h : z < lo ∨ hi < z) (ht : (pc : Int) + dflt = (tgt : Int)) (k : SW K G nL nc ns tgt lv st ws) : SW K G nL nc ns pc lv (.int (iI z) :: st) ws := by
  intro H locs ls hP hD hS hl
  exact lv_tableOut X.1 X.2.1 d (by rw [iI_toInt hr]; exact h) ht (k H locs ls hP hD hS hl)
/-- a field's link, closed: own's entry index is field k of class ci of vwCl -/
def FL (own : String) (index ci k : Nat) (C : String) (T : u_T) (N : Nat) : Prop := vwCl[ci]? = some (C, T, N) ∧ k < N ∧ TG (.fieldLink own index (T k).1 (T k).2.1 (T k).2.2.1) ∧ (∀ w ∈ u_ws C T N, TG w)
theorem ts_of {K : KX} {G : GX} {R0 : Room} {cc : ByteArray} {nL : Nat} {own : String} (X : SK K G R0 cc nL own) {Ts : List Cond} (h : ∀ w ∈ Ts, TG w) : ∀ w ∈ Ts, w.before (ka K) (ks K) = true := fun w hw => X.tb (h w hw) _
theorem s_get {index ci k9 N a : Nat} {C : String} {T : u_T} {fs : List Value} {v : Value} (X : SK K G R0 cc nL own) (d : decode cc pc = .ok (.getfield index, 3)) (f : FL own index ci k9 C T N) (i : Nat) (he : ws[i]? = some (a, .inr (ci, fs))) (hv : fs[k9]? = some v) (k : SW K G nL nc ns (pc + 3) lv (v :: st) ws) : SW K G nL nc ns pc lv (.ref a :: st) ws := by
  intro H locs ls hP hD hS hl
  exact va_get X.1 X.2.1 (ts_of X f.2.2.2) (fun w h => h) X.2.2.2.1 X.2.2.2.2.1.1 hP i he f.1 k9 f.2.1 (X.tb f.2.2.1 _) (fun _ h9 => h9) hv d (k H locs ls hP hD hS hl)
theorem s_put {index ci k9 N a : Nat} {C : String} {T : u_T} {ty0 : Nat → FieldType} {fs : List Value} {v : Value} (X : SK K G R0 cc nL own) (d : decode cc pc = .ok (.putfield index, 3)) (f : FL own index ci k9 C T N) (hty : ∀ k, k < N → parseFieldDescriptor (T k).2.2.1 = some (ty0 k)) (hnm : ∀ a, a < N → ∀ b, b < N → a ≠ b → (T a).2.1 ≠ (T b).2.1) (i : Nat) (he : ws[i]? = some (a, .inr (ci, fs))) (hfin : (T k9).2.2.2 = false) (hn : narrow (ty0 k9) v = v) (hfit : fits (ty0 k9) v = true) (hlen : k9 < fs.length) (ws9 : va_W) (hw : ws.set i (a, .inr (ci, fs.set k9 v)) = ws9) (k : SW K G nL nc ns (pc + 3) lv st ws9) : SW K G nL nc ns pc lv (v :: .ref a :: st) ws := by
  intro H locs ls hP hD hS hl
  subst hw
  exact va_put X.1 X.2.1 (ts_of X f.2.2.2) (fun w h => h) ty0 hty hnm X.2.2.2.1 X.2.2.2.2.1.1 hP hD hS i he f.1 k9 f.2.1 (X.tb f.2.2.1 _) (fun _ h9 => h9) hfin (hty k9 f.2.1) hn hfit hlen d (fun H1 locs1 hP1 hD1 hS1 => k H1 locs1 ls hP1 hD1 hS1 hl)
theorem s_putF {index ci k9 N a : Nat} {C : String} {T : u_T} {ty0 : Nat → FieldType} {fs : List Value} {v : Value} (X : SK K G R0 cc nL own) (hin : (kme K).name = "<init>") (d : decode cc pc = .ok (.putfield index, 3)) (f : FL own index ci k9 C T N) (hty : ∀ k, k < N → parseFieldDescriptor (T k).2.2.1 = some (ty0 k)) (hnm : ∀ a, a < N → ∀ b, b < N → a ≠ b → (T a).2.1 ≠ (T b).2.1) (i : Nat) (he : ws[i]? = some (a, .inr (ci, fs))) (hfin : (T k9).2.2.2 = true) (hdecl : (T k9).1 = own) (hn : narrow (ty0 k9) v = v) (hfit : fits (ty0 k9) v = true) (hlen : k9 < fs.length) (ws9 : va_W) (hw : ws.set i (a, .inr (ci, fs.set k9 v)) = ws9) (k : SW K G nL nc ns (pc + 3) lv st ws9) : SW K G nL nc ns pc lv (v :: .ref a :: st) ws := by
  intro H locs ls hP hD hS hl
  subst hw
  exact va_putF X.1 X.2.1 (ts_of X f.2.2.2) (fun w h => h) ty0 hty hnm X.2.2.2.1 X.2.2.2.2.1.1 hP hD hS i he f.1 k9 f.2.1 (X.tb f.2.2.1 _) (fun _ h9 => h9) hfin hin hdecl (hty k9 f.2.1) hn hfit hlen d (fun H1 locs1 hP1 hD1 hS1 => k H1 locs1 ls hP1 hD1 hS1 hl)
/-- arrays -/
theorem s_bald {a n : Nat} {B : Nat → Nat} {z : Int} (X : SK K G R0 cc nL own) (d : decode cc pc = .ok (.baload, 1)) (i : Nat) (he : ws[i]? = some (a, .inl (gB G, n, .inl (fB B)))) (hz : 0 ≤ z ∧ z < n ∧ n < 2147483648) (k : SW K G nL nc ns (pc + 1) lv (.int (sb (B z.toNat)) :: st) ws) : SW K G nL nc ns pc lv (.int (iI z) :: .ref a :: st) ws := by
  intro H locs ls hP hD hS hl
  refine va_bald X.1 X.2.1 X.2.2.2.2.1.1 hP i 0 he rfl (iI_in hz.1 hz.2.1 hz.2.2) d ?_
  rw [iI_cl ⟨by omega, by omega⟩]
  exact k H locs ls hP hD hS hl
theorem s_iald {a n : Nat} {P : Nat → Int} {z : Int} (X : SK K G R0 cc nL own) (d : decode cc pc = .ok (.iaload, 1)) (i : Nat) (he : ws[i]? = some (a, .inl (gI G, n, .inl (fI P)))) (hz : 0 ≤ z ∧ z < n ∧ n < 2147483648) (k : SW K G nL nc ns (pc + 1) lv (.int (iI (P z.toNat)) :: st) ws) : SW K G nL nc ns pc lv (.int (iI z) :: .ref a :: st) ws := by
  intro H locs ls hP hD hS hl
  refine va_iald X.1 X.2.1 X.2.2.2.2.1.1 hP i 1 he rfl (iI_in hz.1 hz.2.1 hz.2.2) d ?_
  rw [iI_cl ⟨by omega, by omega⟩]
  exact k H locs ls hP hD hS hl
theorem s_dald {a n : Nat} {P : Nat → UInt64} {z : Int} (X : SK K G R0 cc nL own) (d : decode cc pc = .ok (.daload, 1)) (i : Nat) (he : ws[i]? = some (a, .inl (gF G, n, .inr (.inr (.inr (.inl P)))))) (hz : 0 ≤ z ∧ z < n ∧ n < 2147483648) (k : SW K G nL nc ns (pc + 1) lv (.double (P z.toNat) :: st) ws) : SW K G nL nc ns pc lv (.int (iI z) :: .ref a :: st) ws := by
  intro H locs ls hP hD hS hl
  refine va_dald X.1 X.2.1 X.2.2.2.2.1.1 hP i 2 he rfl (iI_in hz.1 hz.2.1 hz.2.2) d ?_
  rw [iI_cl ⟨by omega, by omega⟩]
  exact k H locs ls hP hD hS hl
theorem s_bast {a n : Nat} {B : Nat → Nat} {z : Int} {v : Nat} (X : SK K G R0 cc nL own) (d : decode cc pc = .ok (.bastore, 1)) (i : Nat) (he : ws[i]? = some (a, .inl (gB G, n, .inl (fB B)))) (hz : 0 ≤ z ∧ z < n ∧ n < 2147483648) (ws9 : va_W) (hw : ws.set i (a, .inl (gB G, n, .inl (fB (uB B z.toNat v)))) = ws9) (k : SW K G nL nc ns (pc + 1) lv st ws9) : SW K G nL nc ns pc lv (.int (sb v) :: .int (iI z) :: .ref a :: st) ws := by
  intro H locs ls hP hD hS hl
  subst hw
  refine va_bast X.1 X.2.1 X.2.2.2.2.1.1 hP hD hS i 0 he rfl (iI_in hz.1 hz.2.1 hz.2.2) d (fun H1 locs1 hP1 hD1 hS1 => ?_)
  rw [iI_cl ⟨by omega, by omega⟩, sb_nar, fB_up] at hP1 hD1
  exact k H1 locs1 ls hP1 hD1 hS1 hl
theorem s_iast {a n : Nat} {P : Nat → Int} {z v : Int} (X : SK K G R0 cc nL own) (d : decode cc pc = .ok (.iastore, 1)) (i : Nat) (he : ws[i]? = some (a, .inl (gI G, n, .inl (fI P)))) (hz : 0 ≤ z ∧ z < n ∧ n < 2147483648) (ws9 : va_W) (hw : ws.set i (a, .inl (gI G, n, .inl (fI (uI P z.toNat v)))) = ws9) (k : SW K G nL nc ns (pc + 1) lv st ws9) : SW K G nL nc ns pc lv (.int (iI v) :: .int (iI z) :: .ref a :: st) ws := by
  intro H locs ls hP hD hS hl
  subst hw
  refine va_iast X.1 X.2.1 X.2.2.2.2.1.1 hP hD hS i 1 he rfl (iI_in hz.1 hz.2.1 hz.2.2) d (fun H1 locs1 hP1 hD1 hS1 => ?_)
  rw [iI_cl ⟨by omega, by omega⟩, fI_up] at hP1 hD1
  exact k H1 locs1 ls hP1 hD1 hS1 hl
theorem uD_vf (P : Nat → UInt64) (k : Nat) (v : UInt64) : vf_upd P k v = uD P k v := by
  funext j; unfold vf_upd uD; by_cases h : j = k <;> simp [h]
theorem s_dast {a n : Nat} {P : Nat → UInt64} {z : Int} {v : UInt64} (X : SK K G R0 cc nL own) (d : decode cc pc = .ok (.dastore, 1)) (i : Nat) (he : ws[i]? = some (a, .inl (gF G, n, .inr (.inr (.inr (.inl P)))))) (hz : 0 ≤ z ∧ z < n ∧ n < 2147483648) (ws9 : va_W) (hw : ws.set i (a, .inl (gF G, n, .inr (.inr (.inr (.inl (uD P z.toNat v)))))) = ws9) (k : SW K G nL nc ns (pc + 1) lv st ws9) : SW K G nL nc ns pc lv (.double v :: .int (iI z) :: .ref a :: st) ws := by
  intro H locs ls hP hD hS hl
  subst hw
  refine va_dast X.1 X.2.1 X.2.2.2.2.1.1 hP hD hS i 2 he rfl (iI_in hz.1 hz.2.1 hz.2.2) d (fun H1 locs1 hP1 hD1 hS1 => ?_)
  rw [iI_cl ⟨by omega, by omega⟩, uD_vf] at hP1 hD1
  exact k H1 locs1 ls hP1 hD1 hS1 hl
theorem s_alen {a n : Nat} {c9 : ClassId} {f : (Nat → Int32) ⊕ (Nat → Int64) ⊕ (Nat → UInt32) ⊕ (Nat → UInt64) ⊕ (Nat → Option Nat)} {ty : FieldType} (X : SK K G R0 cc nL own) (d : decode cc pc = .ok (.arraylength, 1)) (i t0 : Nat) (he : ws[i]? = some (a, .inl (c9, n, f))) (ht : (gT G)[t0]? = some (c9, ty)) {z : Int} (hz : (n : Int) = z) (k : SW K G nL nc ns (pc + 1) lv (.int (iI z) :: st) ws) : SW K G nL nc ns pc lv (.ref a :: st) ws := by
  intro H locs ls hP hD hS hl
  subst hz
  exact va_alen X.1 X.2.1 X.2.2.2.2.1.1 hP i t0 he ht (v := iI (n : Int)) (Int32.ofInt_eq_ofNat).symm d (k H locs ls hP hD hS hl)
end SROWS
