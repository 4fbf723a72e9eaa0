/-! THE S-LAYER, second part: objects and arrays made, Object's <init>, rows of longs, the law's script, compares of a double with itself, throwing and catching -/
section SX1
variable {K : KX} {G : GX} {R0 : Room} {cc : ByteArray} {nL nc ns pc : Nat} {own : String} {lv : List (Nat × Value)} {st : List Value} {ws : va_W}
/-- a class whose objects the code makes -/
def NL (own : String) (index ci : Nat) (C : String) (T : u_T) (N : Nat) : Prop := vwCl[ci]? = some (C, T, N) ∧ TG (.classLink own index C) ∧ TG (.instantiable C N) ∧ TG (.initialized C) ∧ (∀ w ∈ u_ws C T N, TG w)
theorem s_new {index ci N : Nat} {C : String} {T : u_T} {ty0 : Nat → FieldType} (X : SK K G R0 cc nL own) (d : decode cc pc = .ok (.new index, 3)) (f : NL own index ci C T N) (hty : ∀ k, k < N → parseFieldDescriptor (T k).2.2.1 = some (ty0 k)) {fs : List Value} (hfs : ∀ j, j < N → defaultValue (ty0 j) = vp_V fs j) (hroom : nc + 1 ≤ R0.cells ∧ ns + N ≤ R0.slots) (k : ∀ q, SW K G nL (nc + 1) (ns + N) (pc + 3) lv (.ref q :: st) (ws ++ [(q, .inr (ci, fs))])) : SW K G nL nc ns pc lv st ws := by
  intro H locs ls hP hD hS hl
  have hRk : kR K = R0 := X.2.2.2.2.2.2
  refine va_new X.1 X.2.1 (ts_of X f.2.2.2.2) (fun w h => h) ty0 hty X.2.2.2.1 (X.tb f.2.1 _) (X.tb f.2.2.1 _) (X.tb f.2.2.2.1 _) X.2.2.2.2.1.1 hP hD hS X.2.2.2.2.2.1 f.1 hfs (by rw [hRk]; exact hroom.1) (by rw [hRk]; exact hroom.2) d (fun q H1 hP1 hD1 hS1 => ?_)
  exact k q H1 locs ls hP1 hD1 hS1 hl
theorem s_newaB {z : Int} {N' : Nat} (X : SK K G R0 cc nL own) (d : decode cc pc = .ok (.newarray .byte, 2)) (hw : TG (.arrayClass .byte)) (hz : R32 z ∧ 0 ≤ z ∧ z.toNat = N') (hb : N' * componentBytes .byte ≤ 536870912) (hroom : nc + 1 ≤ R0.cells ∧ ns + N' ≤ R0.slots) (k : ∀ q, SW K G nL (nc + 1) (ns + N') (pc + 2) lv (.ref q :: st) (ws ++ [(q, .inl (gB G, N', .inl (fB (fun _ => 0))))])) : SW K G nL nc ns pc lv (.int (iI z) :: st) ws := by
  intro H locs ls hP hD hS hl
  have hRk : kR K = R0 := X.2.2.2.2.2.2
  refine va_newa (atype := .byte) (ty := .byte) (a0 := (N', .inl (fB (fun _ => 0)))) (N' := N') X.1 X.2.1 (X.tb hw _) rfl X.2.2.2.2.1.1 hP hD hS X.2.2.2.2.2.1 (fun cA => rfl) (fun q => by have h0 := (iI_lt hz.1 (by decide : R32 0)).mp q; omega) (by rw [iI_cl hz.1]; exact hz.2.2) hb (by rw [hRk]; exact hroom.1) (by rw [hRk]; exact hroom.2) d (fun q cA H1 hK1 hP1 hD1 hS1 => ?_)
  have h4 := (hK1.2 4 _ rfl).2
  have h0 := (hK1.2 0 _ rfl).2
  have e : cA = gB G := Option.some.inj (h4.symm.trans h0)
  rw [e] at hP1 hD1
  exact k q H1 locs ls hP1 hD1 hS1 hl
theorem s_newaI {z : Int} {N' : Nat} (X : SK K G R0 cc nL own) (d : decode cc pc = .ok (.newarray .int, 2)) (hw : TG (.arrayClass .int)) (hz : R32 z ∧ 0 ≤ z ∧ z.toNat = N') (hb : N' * componentBytes .int ≤ 536870912) (hroom : nc + 1 ≤ R0.cells ∧ ns + N' ≤ R0.slots) (k : ∀ q, SW K G nL (nc + 1) (ns + N') (pc + 2) lv (.ref q :: st) (ws ++ [(q, .inl (gI G, N', .inl (fI (fun _ => 0))))])) : SW K G nL nc ns pc lv (.int (iI z) :: st) ws := by
  intro H locs ls hP hD hS hl
  have hRk : kR K = R0 := X.2.2.2.2.2.2
  refine va_newa (atype := .int) (ty := .int) (a0 := (N', .inl (fI (fun _ => 0)))) (N' := N') X.1 X.2.1 (X.tb hw _) rfl X.2.2.2.2.1.1 hP hD hS X.2.2.2.2.2.1 (fun cA => rfl) (fun q => by have h0 := (iI_lt hz.1 (by decide : R32 0)).mp q; omega) (by rw [iI_cl hz.1]; exact hz.2.2) hb (by rw [hRk]; exact hroom.1) (by rw [hRk]; exact hroom.2) d (fun q cA H1 hK1 hP1 hD1 hS1 => ?_)
  have h4 := (hK1.2 4 _ rfl).2
  have h0 := (hK1.2 1 _ rfl).2
  have e : cA = gI G := Option.some.inj (h4.symm.trans h0)
  rw [e] at hP1 hD1
  exact k q H1 locs ls hP1 hD1 hS1 hl
theorem s_newaF {z : Int} {N' : Nat} (X : SK K G R0 cc nL own) (d : decode cc pc = .ok (.newarray .double, 2)) (hw : TG (.arrayClass .double)) (hz : R32 z ∧ 0 ≤ z ∧ z.toNat = N') (hb : N' * componentBytes .double ≤ 536870912) (hroom : nc + 1 ≤ R0.cells ∧ ns + N' ≤ R0.slots) (k : ∀ q, SW K G nL (nc + 1) (ns + N') (pc + 2) lv (.ref q :: st) (ws ++ [(q, .inl (gF G, N', .inr (.inr (.inr (.inl (fun _ => FP.dconst0))))))])) : SW K G nL nc ns pc lv (.int (iI z) :: st) ws := by
  intro H locs ls hP hD hS hl
  have hRk : kR K = R0 := X.2.2.2.2.2.2
  refine va_newa (atype := .double) (ty := .double) (a0 := (N', .inr (.inr (.inr (.inl (fun _ => FP.dconst0)))))) (N' := N') X.1 X.2.1 (X.tb hw _) rfl X.2.2.2.2.1.1 hP hD hS X.2.2.2.2.2.1 (fun cA => rfl) (fun q => by have h0 := (iI_lt hz.1 (by decide : R32 0)).mp q; omega) (by rw [iI_cl hz.1]; exact hz.2.2) hb (by rw [hRk]; exact hroom.1) (by rw [hRk]; exact hroom.2) d (fun q cA H1 hK1 hP1 hD1 hS1 => ?_)
  have h4 := (hK1.2 4 _ rfl).2
  have h0 := (hK1.2 2 _ rfl).2
  have e : cA = gF G := Option.some.inj (h4.symm.trans h0)
  rw [e] at hP1 hD1
  exact k q H1 locs ls hP1 hD1 hS1 hl
theorem s_newaJ {z : Int} {N' : Nat} (X : SK K G R0 cc nL own) (d : decode cc pc = .ok (.newarray .long, 2)) (hw : TG (.arrayClass .long)) (hz : R32 z ∧ 0 ≤ z ∧ z.toNat = N') (hb : N' * componentBytes .long ≤ 536870912) (hroom : nc + 1 ≤ R0.cells ∧ ns + N' ≤ R0.slots) (k : ∀ q, SW K G nL (nc + 1) (ns + N') (pc + 2) lv (.ref q :: st) (ws ++ [(q, .inl (gJ G, N', .inr (.inl (fun j => lI ((fun _ => 0 : Nat → Int) j)))))])) : SW K G nL nc ns pc lv (.int (iI z) :: st) ws := by
  intro H locs ls hP hD hS hl
  have hRk : kR K = R0 := X.2.2.2.2.2.2
  refine va_newa (atype := .long) (ty := .long) (a0 := (N', .inr (.inl (fun j => lI ((fun _ => 0 : Nat → Int) j))))) (N' := N') X.1 X.2.1 (X.tb hw _) rfl X.2.2.2.2.1.1 hP hD hS X.2.2.2.2.2.1 (fun cA => rfl) (fun q => by have h0 := (iI_lt hz.1 (by decide : R32 0)).mp q; omega) (by rw [iI_cl hz.1]; exact hz.2.2) hb (by rw [hRk]; exact hroom.1) (by rw [hRk]; exact hroom.2) d (fun q cA H1 hK1 hP1 hD1 hS1 => ?_)
  have h4 := (hK1.2 4 _ rfl).2
  have h0 := (hK1.2 3 _ rfl).2
  have e : cA = gJ G := Option.some.inj (h4.symm.trans h0)
  rw [e] at hP1 hD1
  exact k q H1 locs ls hP1 hD1 hS1 hl
theorem s_oinit {idx a : Nat} (X : SK K G R0 cc nL own) (d : decode cc pc = .ok (.invokespecial idx, 3)) (w1 : TG (.methodLink own idx Lib.objectInit)) (w2 : TG (.instanceMethod Lib.objectInit)) (w3 : TG (.code Lib.objectInit ⟨#[0xb1]⟩ 1 none)) (hroom : 1 ≤ R0.frames ∧ (st.map fun v => v.category).sum + 12 ≤ R0.locals) (k : SW K G nL nc ns (pc + 3) lv st ws) : SW K G nL nc ns pc lv (.ref a :: st) ws := by
  intro H locs ls hP hD hS hl
  have hRk : kR K = R0 := X.2.2.2.2.2.2
  refine W.objInit X.1 X.2.1 X.2.2.2.1 (X.tb w1 _) (X.tb w2 _) (X.tb w3 _) rfl (hl.1.trans X.2.2.1.symm) rfl d (by rw [hRk]; exact hroom.1) (by
    have h0 : (F0 (km K) pc ls (.ref a :: st)).monitorRoom = 0 := rfl
    rw [h0, hRk]; have := hroom.2; omega) ?_
  exact k H locs ls hP hD hS hl
theorem s_lald {a n : Nat} {P : Nat → Int} {z : Int} (X : SK K G R0 cc nL own) (d : decode cc pc = .ok (.laload, 1)) (i : Nat) (he : ws[i]? = some (a, .inl (gJ G, n, .inr (.inl (fun j => lI (P j)))))) (hz : 0 ≤ z ∧ z < n ∧ n < 2147483648) (k : SW K G nL nc ns (pc + 1) lv (.long (lI (P z.toNat)) :: st) ws) : SW K G nL nc ns pc lv (.int (iI z) :: .ref a :: st) ws := by
  intro H locs ls hP hD hS hl
  refine va_lald X.1 X.2.1 X.2.2.2.2.1.1 hP i 3 he rfl (iI_in hz.1 hz.2.1 hz.2.2) d ?_
  rw [iI_cl ⟨by omega, by omega⟩]
  exact k H locs ls hP hD hS hl
theorem uL_vp (P : Nat → Int) (k : Nat) (v : Int) : vp_updL (fun j => lI (P j)) k (lI v) = fun j => lI (uI P k v j) := by
  funext j; unfold vp_updL uI; by_cases h : j = k <;> simp [h]
theorem s_last {a n : Nat} {P : Nat → Int} {z v : Int} (X : SK K G R0 cc nL own) (d : decode cc pc = .ok (.lastore, 1)) (i : Nat) (he : ws[i]? = some (a, .inl (gJ G, n, .inr (.inl (fun j => lI (P j)))))) (hz : 0 ≤ z ∧ z < n ∧ n < 2147483648) (ws9 : va_W) (hw : ws.set i (a, .inl (gJ G, n, .inr (.inl (fun j => lI (uI P z.toNat v j))))) = ws9) (k : SW K G nL nc ns (pc + 1) lv st ws9) : SW K G nL nc ns pc lv (.long (lI v) :: .int (iI z) :: .ref a :: st) ws := by
  intro H locs ls hP hD hS hl
  subst hw
  refine va_last X.1 X.2.1 X.2.2.2.2.1.1 hP hD hS i 3 he rfl (iI_in hz.1 hz.2.1 hz.2.2) d (fun H1 locs1 hP1 hD1 hS1 => ?_)
  rw [iI_cl ⟨by omega, by omega⟩, uL_vp] at hP1 hD1
  exact k H1 locs1 ls hP1 hD1 hS1 hl
/-- the law's script -/
theorem s_sld {b L : Nat} {xs : Nat → Int32} {z : Int} (X : SK K G R0 cc nL own) (hX : va_X b L xs (ks K) (kH K)) (hbl : b < (kH K).size) (hbA : ¬ kA K b) (d : decode cc pc = .ok (.iaload, 1)) (hz : 0 ≤ z ∧ z < L ∧ L < 2147483648) (k : SW K G nL nc ns (pc + 1) lv (.int (iI (xs z.toNat).toInt) :: st) ws) : SW K G nL nc ns pc lv (.int (iI z) :: .ref b :: st) ws := by
  intro H locs ls hP hD hS hl
  refine va_sld X.1 X.2.1 hX hbl hbA hS (iI_in hz.1 hz.2.1 hz.2.2) d ?_
  rw [iI_cl ⟨by omega, by omega⟩, ← iI_of (xs z.toNat)]
  exact k H locs ls hP hD hS hl
theorem s_slen {b L : Nat} {xs : Nat → Int32} (X : SK K G R0 cc nL own) (hX : va_X b L xs (ks K) (kH K)) (hbl : b < (kH K).size) (hbA : ¬ kA K b) (d : decode cc pc = .ok (.arraylength, 1)) (k : SW K G nL nc ns (pc + 1) lv (.int (iI (L : Int)) :: st) ws) : SW K G nL nc ns pc lv (.ref b :: st) ws := by
  intro H locs ls hP hD hS hl
  refine va_slen X.1 X.2.1 hX hbl hbA hS d ?_
  rw [← show iI (L : Int) = Int32.ofNat L from Int32.ofInt_eq_ofNat]
  exact k H locs ls hP hD hS hl
theorem s_deq {x y : UInt64} {off : Int} (X : SK K G R0 cc nL own) (tgt : Nat) (d1 : decode cc pc = .ok (.dcmp .l, 1)) (d : decode cc (pc + 1) = .ok (.ifCond .eq off, 3)) (ht : ((pc + 1 : Nat) : Int) + off = (tgt : Int)) (kt : Op.cmpValue (FP.dcmp x y) .l = 0 → SW K G nL nc ns tgt lv st ws) (kf : ¬ Op.cmpValue (FP.dcmp x y) .l = 0 → SW K G nL nc ns (pc + 4) lv st ws) : SW K G nL nc ns pc lv (.double y :: .double x :: st) ws := by
  refine s_dcmp X d1 ?_
  intro H locs ls hP hD hS hl
  exact lv_if_eq X.1 X.2.1 d ht (fun h => kt h H locs ls hP hD hS hl) (fun h => kf h H locs ls hP hD hS hl)
theorem s_dne {x y : UInt64} {off : Int} (X : SK K G R0 cc nL own) (tgt : Nat) (d1 : decode cc pc = .ok (.dcmp .l, 1)) (d : decode cc (pc + 1) = .ok (.ifCond .ne off, 3)) (ht : ((pc + 1 : Nat) : Int) + off = (tgt : Int)) (kt : ¬ Op.cmpValue (FP.dcmp x y) .l = 0 → SW K G nL nc ns tgt lv st ws) (kf : Op.cmpValue (FP.dcmp x y) .l = 0 → SW K G nL nc ns (pc + 4) lv st ws) : SW K G nL nc ns pc lv (.double y :: .double x :: st) ws := by
  refine s_dcmp X d1 ?_
  intro H locs ls hP hD hS hl
  exact lv_if_ne X.1 X.2.1 d ht (fun h => kt h H locs ls hP hD hS hl) (fun h => kf h H locs ls hP hD hS hl)
end SX1
/-! throwing and catching -/
abbrev tISE : String := "java/lang/IllegalStateException"
abbrev tUOE : String := "java/lang/UnsupportedOperationException"
abbrev tIOB : String := "java/lang/IndexOutOfBoundsException"
abbrev tAIO : String := "java/lang/ArrayIndexOutOfBoundsException"
/-- the words of a throw and of a catch that are no good words -/
def zW : List Cond := [.declares ⟨"java/lang/RuntimeException", "<init>", "(Ljava/lang/String;)V"⟩, .declares ⟨"java/lang/Exception", "<init>", "(Ljava/lang/String;)V"⟩, .declares ⟨"java/lang/Throwable", "<init>", "(Ljava/lang/String;)V"⟩, .declares ⟨"java/lang/IndexOutOfBoundsException", "<init>", "(Ljava/lang/String;)V"⟩, .castable tISE tISE, .castable tUOE tUOE, .castable tIOB tIOB, .castable tAIO tAIO]
theorem zW_tab : ∀ w ∈ zW, w.onTables = true := by
  intro w hw
  simp only [zW, List.mem_cons, List.mem_nil_iff, or_false] at hw
  rcases hw with rfl | rfl | rfl | rfl | rfl | rfl | rfl | rfl <;> rfl
theorem zW_warm {u U : State} (hW : u.WarmedH U.vm) (h : ∀ w ∈ zW, va_Nw w u) : ∀ w ∈ zW, va_Nw w U := by
  intro w hw
  have h9 := h w hw
  simp only [zW, List.mem_cons, List.mem_nil_iff, or_false] at hw
  rcases hw with rfl | rfl | rfl | rfl | rfl | rfl | rfl | rfl
  · exact va_Nw.warmD hW h9
  · exact va_Nw.warmD hW h9
  · exact va_Nw.warmD hW h9
  · exact va_Nw.warmD hW h9
  · exact va_Nw.warmC hW h9
  · exact va_Nw.warmC hW h9
  · exact va_Nw.warmC hW h9
  · exact va_Nw.warmC hW h9
/-- what stands beside the world: Throwable's two statics, the four texts, and that no one of the one class is of the other -/
def ZF (A : Nat → Prop) (U : State) (H : Heap) : Prop := vx_Zq Bundle.tN "UNASSIGNED_STACK" Bundle.steD A U H ∧ vx_Zq Bundle.tN "SUPPRESSED_SENTINEL" Bundle.listD A U H ∧ (∃ a, vk_R RX5 59 "the END was told" a U) ∧ (∃ a, vk_R RX5 70 "there are 3000 bytes" a U) ∧ (∃ a, vk_R RX5 127 "no such number of a ROW" a U) ∧ (∃ a, vk_R RX5 151 "no such byte came" a U) ∧ va_Nc tUOE tISE U ∧ ∀ w ∈ zW, va_Nw w U
theorem ZF.go {A B : Nat → Prop} {u U : State} {H H1 : Heap} (hW : u.WarmedH U.vm) (h : ZF A u H) (hq : ∀ a : Nat, a < H.size → ¬ A a → H1[a]? = H[a]?) (hAB : ∀ q, B q → A q) : ZF B U H1 := by
  obtain ⟨h1, h2, ⟨a3, h3⟩, ⟨a4, h4⟩, ⟨a5, h5⟩, ⟨a6, h6⟩, h7, h8⟩ := h
  exact ⟨((vx_Zq.moved hW.alike h1).kept hq).narrow hAB, ((vx_Zq.moved hW.alike h2).kept hq).narrow hAB, ⟨a3, h3.warm hW⟩, ⟨a4, h4.warm hW⟩, ⟨a5, h5.warm hW⟩, ⟨a6, h6.warm hW⟩, h7.moved hW.alike, zW_warm hW h8⟩
theorem ZF.same {A : Nat → Prop} {u U : State} {H : Heap} (hv : U.vm = u.vm) (h : ZF A u H) : ZF A U H := by
  obtain ⟨h1, h2, ⟨a3, h3⟩, ⟨a4, h4⟩, ⟨a5, h5⟩, ⟨a6, h6⟩, h7, h8⟩ := h
  have ha : u.vm.Alike U.vm := by rw [hv]; exact Vm.Alike.refl _
  exact ⟨vx_Zq.moved ha h1, vx_Zq.moved ha h2, ⟨a3, h3.same hv⟩, ⟨a4, h4.same hv⟩, ⟨a5, h5.same hv⟩, ⟨a6, h6.same hv⟩, h7.moved ha, fun w hw => va_Nw.same (zW_tab w hw) hv.symm (h8 w hw)⟩
def preX (G : GX) (wc : va_W) (sz : Nat) : State → Prop := fun U => preW G wc sz U ∧ ZF (va_A wc sz) U U.heap
theorem preX.blind {G : GX} {wc : va_W} {sz : Nat} {As : List Value} : FrameBlind (va_Pc As (preX G wc sz)) := fun a U g mk q => ⟨q.1, ⟨q.2.1.1, q.2.1.2.1, GK.same (s := U) (U := U.calling g mk a) rfl q.2.1.2.2.1, q.2.1.2.2.2⟩, ZF.same (u := U) (U := U.calling g mk a) rfl q.2.2⟩
abbrev XP : Type := String → va_W → Prop
def XCw (G : GX) (wc : va_W) (sz : Nat) (xp : XP) : String → State → State → Prop := vx_X (S := String × va_W) (fun u => xp u.1 u.2) (fun E u t => E = u.1 ∧ posW G wc sz u.2 t) (va_A wc sz)
def CtXI (l : Launch) (G : GX) (y : MethodName) (w0 : Cond) (rm : Room) (As : List Value) (wc : va_W) (post : Int → va_W → Prop) (xp : XP) : Prop := ∀ sz, vx_Met l y [w0] rm (va_Pc As (preX G wc sz)) (va_Qi (qI post) (posW G wc sz) (va_A wc sz)) (XCw G wc sz xp) rm.cells rm.slots (va_A wc sz)
def CtXD (l : Launch) (G : GX) (y : MethodName) (w0 : Cond) (rm : Room) (As : List Value) (wc : va_W) (post : UInt64 → va_W → Prop) (xp : XP) : Prop := ∀ sz, vx_Met l y [w0] rm (va_Pc As (preX G wc sz)) (va_Qd post (posW G wc sz) (va_A wc sz)) (XCw G wc sz xp) rm.cells rm.slots (va_A wc sz)
/-- the end that a walk owes that may throw -/
def RQX (K : KX) (G : GX) (ret : Option FieldType) (nc ns : Nat) (QQ : va_W → Nat → Array Value → State → Outcome → State → Prop) (xp : XP) : Prop :=
  (kme K).sig.returnType = ret ∧ (kme K).locks = false ∧ (kl K).stackTraces = false ∧ ZF (kA K) (ks K) (kH K) ∧ ∃ (wc : va_W) (sz : Nat), kQ K = vx_MQ (kb K) (QQ wc sz) (XCw G wc sz xp) (ka K) (ks K) nc ns (va_A wc sz) ∧ kA K = va_A wc sz ∧ kH K = (ks K).heap
def RXI (K : KX) (G : GX) (ret : Option FieldType) (nc ns : Nat) (post : Int → va_W → Prop) (xp : XP) : Prop := RQX K G ret nc ns (fun wc sz => va_Qi (qI post) (posW G wc sz) (va_A wc sz)) xp
def RXD (K : KX) (G : GX) (ret : Option FieldType) (nc ns : Nat) (post : UInt64 → va_W → Prop) (xp : XP) : Prop := RQX K G ret nc ns (fun wc sz => va_Qd post (posW G wc sz) (va_A wc sz)) xp
def NT (K : KX) : Prop := ∀ x ∈ (kc K).exceptionTable.toList, False
theorem metX_of {l : Launch} (hfl : l.stackTraces = false) {G : GX} {y : MethodName} {b : ByteArray} {n : Nat} {ret : Option FieldType} {rm : Room} {As : List Value} {wc : va_W} {sz : Nat} (QQ : va_W → Nat → Array Value → State → Outcome → State → Prop) (xp : XP) (hy : plainName y.cls = true) (lv0 : List (Nat × Value)) (hlv : lv_args 0 As = lv0) (hlen : (lg_sl As).length ≤ n)
    (body : ∀ K : KX, kl K = l → NT K → SK K G rm b n y.cls → RQX K G ret rm.cells rm.slots QQ xp → SW K G n 0 0 0 lv0 [] wc) : vx_Met l y [.code y b n ret] rm (va_Pc As (preX G wc sz)) (QQ wc sz) (XCw G wc sz xp) rm.cells rm.slots (va_A wc sz) := by
  refine vx_ofW (cc := b) (maxL := n) (ret := ret) hy rfl ?_
  intro p e s m args below meth c s₁ B hml hnt hv
  obtain ⟨rfl, ⟨hsz, hP, hK, hD⟩, hZ⟩ := hv
  subst hsz
  subst hlv
  have h := body (p, l, e, rm, s, m, As.toArray, below, meth, c, va_A wc s.heap.size, s.heap, vx_MQ below (QQ wc s.heap.size) (XCw G wc s.heap.size xp) As.toArray s rm.cells rm.slots (va_A wc s.heap.size)) rfl hnt ⟨B.exec, B.bytes, hml, findClass_of_methodNamed B.named, hK, fun q h => Or.inr h, rfl⟩ ⟨B.returns, B.notSynchronized, hfl, hZ, wc, s.heap.size, rfl, rfl, rfl⟩
  have hl := lv_entry As (n := n) hlen
  rw [lg_entry_eq]
  exact h s.heap [] _ hP hD.self va_S.rf hl
/-- of a method with a table of handlers -/
theorem metH_of {l : Launch} (hfl : l.stackTraces = false) {G : GX} {y : MethodName} {b : ByteArray} {n : Nat} {ret : Option FieldType} {hh : List (Nat × Nat × Nat × Nat)} {rm : Room} {As : List Value} {wc : va_W} {sz : Nat} (QQ : va_W → Nat → Array Value → State → Outcome → State → Prop) (xp : XP) (hy : plainName y.cls = true) (hw0 : TG (.codeWith y b n ret hh)) (lv0 : List (Nat × Value)) (hlv : lv_args 0 As = lv0) (hlen : (lg_sl As).length ≤ n)
    (body : ∀ K : KX, kl K = l → (kc K).exceptionTable.toList = tableOf hh → SK K G rm b n y.cls → RQX K G ret rm.cells rm.slots QQ xp → SW K G n 0 0 0 lv0 [] wc) : vx_Met l y [.codeWith y b n ret hh] rm (va_Pc As (preX G wc sz)) (QQ wc sz) (XCw G wc sz xp) rm.cells rm.slots (va_A wc sz) := by
  refine vx_ofWH (cc := b) (maxL := n) (ret := ret) (hh := hh) hy rfl ?_
  intro p e s m args below meth c s₁ B hml hv
  obtain ⟨rfl, ⟨hsz, hP, hK, hD⟩, hZ⟩ := hv
  subst hsz
  subst hlv
  have htb := vx_table (x := y) B (hK.2.1 _ hw0 As.toArray)
  have h := body (p, l, e, rm, s, m, As.toArray, below, meth, c, va_A wc s.heap.size, s.heap, vx_MQ below (QQ wc s.heap.size) (XCw G wc s.heap.size xp) As.toArray s rm.cells rm.slots (va_A wc s.heap.size)) rfl htb ⟨B.exec, B.bytes, hml, findClass_of_methodNamed B.named, hK, fun q h => Or.inr h, rfl⟩ ⟨B.returns, B.notSynchronized, hfl, hZ, wc, s.heap.size, rfl, rfl, rfl⟩
  have hl := lv_entry As (n := n) hlen
  rw [lg_entry_eq]
  exact h s.heap [] _ hP hD.self va_S.rf hl
section SX2
variable {K : KX} {G : GX} {R0 : Room} {cc : ByteArray} {nL nc ns pc mc ms : Nat} {own : String} {lv : List (Nat × Value)} {st : List Value} {ws : va_W} {xp : XP}
theorem s_iretX {ty : FieldType} {z : Int} {post : Int → va_W → Prop} (X : SK K G R0 cc nL own) (Y : RXI K G (some ty) mc ms post xp) (hc : nc ≤ mc ∧ ns ≤ ms) (d : decode cc pc = .ok (.ireturn, 1)) (hn : narrow ty (.int (iI z)) = .int (iI z)) (h : post z ws) : SW K G nL nc ns pc lv [.int (iI z)] ws := by
  intro H locs ls hP hD hS hl
  obtain ⟨hr, hlk, -, -, wc, sz, hQ, hA, hH⟩ := Y
  show W _ _ _ _ _ _ _ _ _ _ _ _ _ _ (kQ K) _
  rw [hQ]
  rw [hA] at hD hS
  rw [hH] at hS
  refine W.widen hc.1 hc.2 (vx_ret ?_)
  exact W.zret X.1 X.2.1 hr hn (fun t ht hW => ⟨⟨iI z, ws, rfl, ⟨z, rfl, h⟩, by rw [ht]; exact hP, hD⟩, hS.F ht⟩) hS.2.2 d hlk
theorem s_dretX {z : UInt64} {post : UInt64 → va_W → Prop} (X : SK K G R0 cc nL own) (Y : RXD K G (some .double) mc ms post xp) (hc : nc ≤ mc ∧ ns ≤ ms) (d : decode cc pc = .ok (.dreturn, 1)) (h : post z ws) : SW K G nL nc ns pc lv [.double z] ws := by
  intro H locs ls hP hD hS hl
  obtain ⟨hr, hlk, -, -, wc, sz, hQ, hA, hH⟩ := Y
  show W _ _ _ _ _ _ _ _ _ _ _ _ _ _ (kQ K) _
  rw [hQ]
  rw [hA] at hD hS
  rw [hH] at hS
  refine W.widen hc.1 hc.2 (vx_ret ?_)
  exact W.dret X.1 X.2.1 hr (fun t ht hW => ⟨⟨z, ws, rfl, h, by rw [ht]; exact hP, hD⟩, hS.F ht⟩) hS.2.2 d hlk
/-- a throw's words -/
def TL (own : String) (ik ic : Nat) (cls : String) (names : List String) : Prop := Bundle.fit cls = true ∧ (∀ n ∈ names, Bundle.fit n = true) ∧ TG (.classLink own ik cls) ∧ TG (.initialized cls) ∧ (∀ w ∈ vx_atS own ic cls names, TG w ∨ w ∈ zW)
theorem s_throw {QQ : va_W → Nat → Array Value → State → Outcome → State → Prop} {ret : Option FieldType} {ik is ic : Nat} {cls text : String} {names : List String} (X : SK K G R0 cc nL own) (N : NT K) (Y : RQX K G ret mc ms QQ xp) (L : TL own ik ic cls names) (hst : ∃ a, vk_R own is text a (ks K)) (d0 : decode cc pc = .ok (.new ik, 3)) (d3 : decode cc (pc + 3) = .ok (.dup, 1)) (d4 : decode cc (pc + 4) = .ok (.ldc is, 2)) (d6 : decode cc (pc + 6) = .ok (.invokespecial ic, 3)) (d9 : decode cc (pc + 9) = .ok (.athrow, 1))
    (hroom : names.length + 3 < R0.frames ∧ (st.map fun v => v.category).sum + (13 * (names.length + 1) + 43) ≤ R0.locals ∧ nc + 1 ≤ R0.cells ∧ ns + 6 ≤ R0.slots ∧ nc + 1 ≤ mc ∧ ns + 6 ≤ ms) (h : xp cls ws) : SW K G nL nc ns pc lv st ws := by
  intro H locs ls hP hD hS hl
  have hRk : kR K = R0 := X.2.2.2.2.2.2
  obtain ⟨hr, hlk, hfl, hZ, wc, sz, hQ, hA, hH⟩ := Y
  obtain ⟨sa, hsa⟩ := hst
  show W _ _ _ _ _ _ _ _ _ _ _ _ _ _ (kQ K) _
  rw [hQ]
  rw [hA] at hD hS hZ
  rw [hH] at hS hZ
  refine vx_throwS X.1 X.2.1 hfl X.2.2.2.1 L.1 L.2.1 (X.tb L.2.2.1 _) (X.tb L.2.2.2.1 _) hsa (fun w hw => (L.2.2.2.2 w hw).elim (fun g => X.tb g _) (fun g => va_Nw.use (zW_tab w g) (hZ.2.2.2.2.2.2.2 w g))) (fun w hw => ?_) hZ.1 hZ.2.1 hS (hl.1.trans X.2.2.1.symm) d0 d3 d4 d6 d9 (fun x hx => (N x hx).elim) (by rw [hRk]; exact hroom.1) (by rw [hRk]; exact hroom.2.1) (by rw [hRk]; exact hroom.2.2.1) (by rw [hRk]; exact hroom.2.2.2.1) hlk (fun t ht hs1 hs2 => ?_) hS.2.2 hroom.2.2.2.2.1 hroom.2.2.2.2.2
  · have hg : goodWord w = true ∨ w.onTables = true := by
      rcases List.mem_cons.mp hw with e | hw
      · rw [e]; exact Or.inl L.2.2.1.2
      · rcases List.mem_cons.mp hw with e | hw
        · rw [e]; exact Or.inl L.2.2.2.1.2
        · exact (L.2.2.2.2 w hw).imp (fun g => g.2) (fun g => zW_tab w g)
    rcases hg with hg | hg
    · simp only [vx_ot, hg, Bool.or_true]
    · simp only [vx_ot, hg, Bool.true_or]
  · refine ⟨(cls, ws), h, ⟨rfl, hP.kept (fun k q hq => hs2 _ (vx_lt hP hq)), hD⟩, Nat.le_trans hS.1 hs1, fun q h1 h2 => ?_⟩
    rw [hs2 q (Nat.lt_of_lt_of_le h1 hS.1)]
    exact hS.2.1 q h1 h2
/-- an exception of class E over the frame, thrown at pc -/
def SWx (K : KX) (G : GX) (nL nc ns pc : Nat) (lv : List (Nat × Value)) (st : List Value) (ws : va_W) (E : String) : Prop :=
  ∀ (H : Heap) (locs : List Loc) (ls : Array Slot) (q : Nat) (ce : Cell), va_P (gD G) vwCl ws H → va_D (kA K) ws → va_S (kA K) (kH K) H locs → lv_has ls nL lv → H[q]? = some ce → ce.vm = .none → (ks K).vm.findClass E = some ce.cls → vx_W (kp K) (kl K) (ke K) (kR K) (ks K) (km K) (ka K) (kb K) (kme K) (kc K) H locs nc ns (kQ K) (F0 (km K) pc ls st) q
theorem s_catch {E name : String} {hpc : Nat} (X : SK K G R0 cc nL own) (hZ : ZF (kA K) (ks K) (kH K)) (pre : List ExceptionTableEntry) (x : ExceptionTableEntry) (suf : List ExceptionTableEntry) (hsplit : (kc K).exceptionTable.toList = pre ++ x :: suf)
    (hpass : ∀ z ∈ pre, covers z pc = false ∨ (z.catchType ≠ 0 ∧ ∃ nm : String, TG (.classLink own z.catchType nm) ∧ va_Nc E nm (ks K))) (hx : covers x pc = true) (h0 : x.catchType ≠ 0) (hlink : TG (.classLink own x.catchType name)) (hcast : Cond.castable E name ∈ zW) (hh : x.handlerPc = hpc) (k : ∀ q, SW K G nL nc ns hpc lv [.ref q] ws) : SWx K G nL nc ns pc lv st ws E := by
  intro H locs ls q ce hP hD hS hl h1 h2 h3
  subst hh
  exact vx_catch X.2.2.2.1 pre x suf hsplit (fun z hz => (hpass z hz).imp id (fun ⟨a, nm, b, c⟩ => ⟨a, nm, X.tb b _, c⟩)) hx h0 (X.tb hlink _) (va_Nw.use rfl (hZ.2.2.2.2.2.2.2 _ hcast)) h1 h2 h3 (k q H locs ls hP hD hS hl)
theorem s_callXI {y : MethodName} {b : ByteArray} {n na idx : Nat} {ret : Option FieldType} {a : Nat} {rm : Room} {As rest : List Value} {post : Int → va_W → Prop} {xq : XP} (X : SK K G R0 cc nL own) (hZ : ZF (kA K) (ks K) (kH K)) (L : LV own idx y b n ret na) (isC isR : List Nat) {wr wc : va_W} (hC : isC.map (fun i => ws[i]?) = wc.map some) (hR : isR.map (fun i => ws[i]?) = wr.map some) (hCn : va_nd isC = true) (hRn : va_nd isR = true) (hdis : ∀ i ∈ isR, i ∉ isC) (hc : CtXI (kl K) G y (.code y b n ret) rm (.ref a :: As) wc post xq) {ci N : Nat} {T : u_T} {fs : List Value} (hrc : wc[0]? = some (a, .inr (ci, fs))) (hcl : vwCl[ci]? = some (y.cls, T, N)) (d : decode cc pc = .ok (.invokevirtual idx, 3)) (hst : st = As.reverse ++ .ref a :: rest) (hna : As.length = na) (hcat : (rest.map fun v => v.category).sum ≤ 8) (hroom : (rm.frames + 1 ≤ R0.frames ∧ 8 + (n + 11) + rm.locals ≤ R0.locals) ∧ nc + rm.cells ≤ R0.cells ∧ ns + rm.slots ≤ R0.slots) (kk : ∀ (z : Int) (w9 : va_W), post z w9 → SW K G nL (nc + rm.cells) (ns + rm.slots) (pc + 3) lv (.int (iI z) :: rest) (wr ++ w9)) (kx : ∀ (E : String) (w9 : va_W), xq E w9 → SWx K G nL (nc + rm.cells) (ns + rm.slots) pc lv rest (wr ++ w9) E) : SW K G nL nc ns pc lv st ws := by
  intro H locs ls hP hD hS hl
  subst hst
  have hPc := hP.sub isC (fm_of hC)
  have hDc := hD.sub isC hCn hC
  have hFc := va_free hD hS X.2.2.2.2.2.1 isC hC
  have hRk : kR K = R0 := X.2.2.2.2.2.2
  refine vx_calli (vx_runV (As := As) (rest := rest) ⟨X.1, X.2.1, X.2.2.1, X.2.2.2.1, ts_of X L.all⟩ (hc H.size) (cwV na (ts_of X L.all) (good_self L.all) rfl rfl rfl ⟨rfl, L.2.2.2.2.2⟩ ⟨by rw [hRk]; exact hroom.1.1, by rw [hRk]; exact hroom.1.2⟩) ⟨preX.blind, (by obtain ⟨cell, g1, g2, g3⟩ := va_recv X.2.2.2.2.1.1 hPc hcl hrc; exact ⟨cell, g1, g2, g3⟩), fun U hU hW => ⟨rfl, ⟨by rw [hU], by rw [hU]; exact hPc, GK.moved hW X.2.2.2.2.1, hDc.weaken (fun _ _ _ _ => trivial)⟩, by rw [hU]; exact ZF.go hW hZ hS.2.1 hFc⟩⟩ rfl hna hl.1 rfl (lv_room hcat) d ⟨by rw [hRk]; exact hroom.2.1, by rw [hRk]; exact hroom.2.2⟩) hS (fun q _ h => hFc q h) hFc (fun q _ h => hFc q h) (fun E ce q9 u t H1 locs1 ht hvm hw hB hz1 hk1 hS1 h1 h2 h3 => ?_) (fun r u t H1 locs1 ht hvm hw hB hz1 hk1 hS1 => ?_)
  · obtain ⟨rfl, hP1, hD1⟩ := hB
    rw [ht] at hP1
    obtain ⟨hP2, hD2⟩ := va_join hP hD isC isR hC hR hRn hdis hk1 hFc hP1 hD1
    exact kx u.1 u.2 hw H1 locs1 ls q9 ce hP2 hD2 hS1 hl h1 h2 h3
  · obtain ⟨z, rfl, hpost⟩ := hw
    obtain ⟨hP1, hD1⟩ := hB
    rw [ht] at hP1
    obtain ⟨hP2, hD2⟩ := va_join hP hD isC isR hC hR hRn hdis hk1 hFc hP1 hD1
    exact kk z u hpost H1 locs1 ls hP2 hD2 hS1 hl
theorem s_callXD {y : MethodName} {b : ByteArray} {n na idx : Nat} {ret : Option FieldType} {a : Nat} {rm : Room} {As rest : List Value} {post : UInt64 → va_W → Prop} {xq : XP} (X : SK K G R0 cc nL own) (hZ : ZF (kA K) (ks K) (kH K)) (L : LV own idx y b n ret na) (isC isR : List Nat) {wr wc : va_W} (hC : isC.map (fun i => ws[i]?) = wc.map some) (hR : isR.map (fun i => ws[i]?) = wr.map some) (hCn : va_nd isC = true) (hRn : va_nd isR = true) (hdis : ∀ i ∈ isR, i ∉ isC) (hc : CtXD (kl K) G y (.code y b n ret) rm (.ref a :: As) wc post xq) {ci N : Nat} {T : u_T} {fs : List Value} (hrc : wc[0]? = some (a, .inr (ci, fs))) (hcl : vwCl[ci]? = some (y.cls, T, N)) (d : decode cc pc = .ok (.invokevirtual idx, 3)) (hst : st = As.reverse ++ .ref a :: rest) (hna : As.length = na) (hcat : (rest.map fun v => v.category).sum ≤ 8) (hroom : (rm.frames + 1 ≤ R0.frames ∧ 8 + (n + 11) + rm.locals ≤ R0.locals) ∧ nc + rm.cells ≤ R0.cells ∧ ns + rm.slots ≤ R0.slots) (kk : ∀ (z : UInt64) (w9 : va_W), post z w9 → SW K G nL (nc + rm.cells) (ns + rm.slots) (pc + 3) lv (.double z :: rest) (wr ++ w9)) (kx : ∀ (E : String) (w9 : va_W), xq E w9 → SWx K G nL (nc + rm.cells) (ns + rm.slots) pc lv rest (wr ++ w9) E) : SW K G nL nc ns pc lv st ws := by
  intro H locs ls hP hD hS hl
  subst hst
  have hPc := hP.sub isC (fm_of hC)
  have hDc := hD.sub isC hCn hC
  have hFc := va_free hD hS X.2.2.2.2.2.1 isC hC
  have hRk : kR K = R0 := X.2.2.2.2.2.2
  refine vx_calld (vx_runV (As := As) (rest := rest) ⟨X.1, X.2.1, X.2.2.1, X.2.2.2.1, ts_of X L.all⟩ (hc H.size) (cwV na (ts_of X L.all) (good_self L.all) rfl rfl rfl ⟨rfl, L.2.2.2.2.2⟩ ⟨by rw [hRk]; exact hroom.1.1, by rw [hRk]; exact hroom.1.2⟩) ⟨preX.blind, (by obtain ⟨cell, g1, g2, g3⟩ := va_recv X.2.2.2.2.1.1 hPc hcl hrc; exact ⟨cell, g1, g2, g3⟩), fun U hU hW => ⟨rfl, ⟨by rw [hU], by rw [hU]; exact hPc, GK.moved hW X.2.2.2.2.1, hDc.weaken (fun _ _ _ _ => trivial)⟩, by rw [hU]; exact ZF.go hW hZ hS.2.1 hFc⟩⟩ rfl hna hl.1 rfl (lv_room hcat) d ⟨by rw [hRk]; exact hroom.2.1, by rw [hRk]; exact hroom.2.2⟩) hS (fun q _ h => hFc q h) hFc (fun q _ h => hFc q h) (fun E ce q9 u t H1 locs1 ht hvm hw hB hz1 hk1 hS1 h1 h2 h3 => ?_) (fun r u t H1 locs1 ht hvm hw hB hz1 hk1 hS1 => ?_)
  · obtain ⟨rfl, hP1, hD1⟩ := hB
    rw [ht] at hP1
    obtain ⟨hP2, hD2⟩ := va_join hP hD isC isR hC hR hRn hdis hk1 hFc hP1 hD1
    exact kx u.1 u.2 hw H1 locs1 ls q9 ce hP2 hD2 hS1 hl h1 h2 h3
  · obtain ⟨hP1, hD1⟩ := hB
    rw [ht] at hP1
    obtain ⟨hP2, hD2⟩ := va_join hP hD isC isR hC hR hRn hdis hk1 hFc hP1 hD1
    exact kk r u hw H1 locs1 ls hP2 hD2 hS1 hl
/-- a static call of a method with handlers, which lets nothing out -/
def LH (own : String) (idx : Nat) (y : MethodName) (b : ByteArray) (n : Nat) (ret : Option FieldType) (hh : List (Nat × Nat × Nat × Nat)) (na : Nat) : Prop := TG (.methodLink own idx y) ∧ TG (.static y) ∧ TG (.initialized y.cls) ∧ TG (.codeWith y b n ret hh) ∧ okY y na
theorem LH.all {own : String} {idx : Nat} {y : MethodName} {b : ByteArray} {n : Nat} {ret : Option FieldType} {hh : List (Nat × Nat × Nat × Nat)} {na : Nat} (L : LH own idx y b n ret hh na) : ∀ w ∈ va_wsS own idx y [.codeWith y b n ret hh], TG w := by
  intro w hw
  simp only [va_wsS, List.mem_append, List.mem_cons, List.mem_nil_iff, or_false] at hw
  rcases hw with (rfl | rfl | rfl) | rfl
  all_goals first | exact L.1 | exact L.2.1 | exact L.2.2.1 | exact L.2.2.2.1
theorem s_callH {y : MethodName} {b : ByteArray} {n na idx : Nat} {ret : Option FieldType} {hh : List (Nat × Nat × Nat × Nat)} {rm : Room} {As rest : List Value} {post : Int → va_W → Prop} (X : SK K G R0 cc nL own) (hZ : ZF (kA K) (ks K) (kH K)) (L : LH own idx y b n ret hh na) (isC isR : List Nat) {wr wc : va_W} (hC : isC.map (fun i => ws[i]?) = wc.map some) (hR : isR.map (fun i => ws[i]?) = wr.map some) (hCn : va_nd isC = true) (hRn : va_nd isR = true) (hdis : ∀ i ∈ isR, i ∉ isC) (hc : CtXI (kl K) G y (.codeWith y b n ret hh) rm As wc post (fun _ _ => False)) (d : decode cc pc = .ok (.invokestatic idx, 3)) (hst : st = As.reverse ++ rest) (hna : As.length = na) (hcat : (rest.map fun v => v.category).sum ≤ 8) (hroom : (rm.frames + 1 ≤ R0.frames ∧ 8 + (n + 11) + rm.locals ≤ R0.locals) ∧ nc + rm.cells ≤ R0.cells ∧ ns + rm.slots ≤ R0.slots) (kk : ∀ (z : Int) (w9 : va_W), post z w9 → SW K G nL (nc + rm.cells) (ns + rm.slots) (pc + 3) lv (.int (iI z) :: rest) (wr ++ w9)) : SW K G nL nc ns pc lv st ws := by
  intro H locs ls hP hD hS hl
  subst hst
  have hPc := hP.sub isC (fm_of hC)
  have hDc := hD.sub isC hCn hC
  have hFc := va_free hD hS X.2.2.2.2.2.1 isC hC
  have hRk : kR K = R0 := X.2.2.2.2.2.2
  refine vx_calli (vx_runSX (hh := hh) (As := As) (rest := rest) ⟨X.1, X.2.1, X.2.2.1, X.2.2.2.1, ts_of X L.all⟩ (hc H.size) (vx_cwSW na (ts_of X L.all) (good_self L.all) rfl rfl rfl L.2.2.2.2 ⟨by rw [hRk]; exact hroom.1.1, by rw [hRk]; exact hroom.1.2⟩) ⟨preX.blind, fun U hU hW => ⟨rfl, ⟨by rw [hU], by rw [hU]; exact hPc, GK.moved hW X.2.2.2.2.1, hDc.weaken (fun _ _ _ _ => trivial)⟩, by rw [hU]; exact ZF.go hW hZ hS.2.1 hFc⟩⟩ rfl hna hl.1 rfl (lv_room hcat) d ⟨by rw [hRk]; exact hroom.2.1, by rw [hRk]; exact hroom.2.2⟩) hS (fun q _ h => hFc q h) hFc (fun q _ h => hFc q h) (fun E ce q9 u t H1 locs1 ht hvm hw hB hz1 hk1 hS1 h1 h2 h3 => hw.elim) (fun r u t H1 locs1 ht hvm hw hB hz1 hk1 hS1 => ?_)
  obtain ⟨z, rfl, hpost⟩ := hw
  obtain ⟨hP1, hD1⟩ := hB
  rw [ht] at hP1
  obtain ⟨hP2, hD2⟩ := va_join hP hD isC isR hC hR hRn hdis hk1 hFc hP1 hD1
  exact kk z u hpost H1 locs1 ls hP2 hD2 hS1 hl
end SX2
theorem tg_all {L : List Cond} (h : L.all (fun w => (goodWord w && decide (w ∈ lw_tbl)) || decide (w ∈ zW)) = true) : ∀ w ∈ L, TG w ∨ w ∈ zW := by
  intro w hw
  have h1 := List.all_eq_true.mp h w hw
  simp only [Bool.and_eq_true, Bool.or_eq_true, decide_eq_true_eq] at h1
  exact h1.imp (fun g => ⟨g.2, g.1⟩) id
theorem tl_ise : TL RX5 57 61 tISE ["java/lang/RuntimeException", "java/lang/Exception"] := ⟨by decide +kernel, by decide +kernel, ⟨by decide +kernel, by decide +kernel⟩, ⟨by decide +kernel, by decide +kernel⟩, tg_all (by decide +kernel)⟩
theorem tl_uoe : TL RX5 68 72 tUOE ["java/lang/RuntimeException", "java/lang/Exception"] := ⟨by decide +kernel, by decide +kernel, ⟨by decide +kernel, by decide +kernel⟩, ⟨by decide +kernel, by decide +kernel⟩, tg_all (by decide +kernel)⟩
theorem tl_iob : TL RX5 125 129 tIOB ["java/lang/RuntimeException", "java/lang/Exception"] := ⟨by decide +kernel, by decide +kernel, ⟨by decide +kernel, by decide +kernel⟩, ⟨by decide +kernel, by decide +kernel⟩, tg_all (by decide +kernel)⟩
theorem tl_aio : TL RX5 149 153 tAIO ["java/lang/IndexOutOfBoundsException", "java/lang/RuntimeException", "java/lang/Exception"] := ⟨by decide +kernel, by decide +kernel, ⟨by decide +kernel, by decide +kernel⟩, ⟨by decide +kernel, by decide +kernel⟩, tg_all (by decide +kernel)⟩
