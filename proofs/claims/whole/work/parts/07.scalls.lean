/-! CONTRACTS over worlds, and calls of them. Ct?: from the cells wc, with the arguments As, the method returns, and its answer and the cells behind it are as 'post' says. -/
theorem fm_of {α : Type} {f : Nat → Option α} {is : List Nat} {l : List α} (h : is.map f = l.map some) : is.filterMap f = l := by
  have h1 := congrArg (List.filterMap id) h
  simpa [List.filterMap_map, Function.comp_def] using h1
def preW (G : GX) (wc : va_W) (sz : Nat) : State → Prop := fun U => U.heap.size = sz ∧ va_P (gD G) vwCl wc U.heap ∧ GK G U ∧ va_D (fun _ => True) wc
def posW (G : GX) (wc : va_W) (sz : Nat) : va_W → State → Prop := fun w t => va_P (gD G) vwCl w t.heap ∧ va_D (va_A wc sz) w
theorem preW.blind {G : GX} {wc : va_W} {sz : Nat} {As : List Value} : FrameBlind (va_Pc As (preW G wc sz)) := fun a U g mk q => ⟨q.1, q.2.1, q.2.2.1, GK.same (s := U) (U := U.calling g mk a) rfl q.2.2.2.1, q.2.2.2.2⟩
def qI (post : Int → va_W → Prop) : Int32 → va_W → Prop := fun r w => ∃ z : Int, r = iI z ∧ post z w
def qL (post : Int → va_W → Prop) : Int64 → va_W → Prop := fun r w => ∃ z : Int, r = lI z ∧ post z w
def CtI (l : Launch) (G : GX) (y : MethodName) (b : ByteArray) (n : Nat) (ret : Option FieldType) (rm : Room) (As : List Value) (wc : va_W) (post : Int → va_W → Prop) : Prop := ∀ sz, Met l y [.code y b n ret] rm (va_Pc As (preW G wc sz)) (va_Qi (qI post) (posW G wc sz) (va_A wc sz)) rm.cells rm.slots (va_A wc sz)
def CtL (l : Launch) (G : GX) (y : MethodName) (b : ByteArray) (n : Nat) (ret : Option FieldType) (rm : Room) (As : List Value) (wc : va_W) (post : Int → va_W → Prop) : Prop := ∀ sz, Met l y [.code y b n ret] rm (va_Pc As (preW G wc sz)) (va_Ql (qL post) (posW G wc sz) (va_A wc sz)) rm.cells rm.slots (va_A wc sz)
def CtD (l : Launch) (G : GX) (y : MethodName) (b : ByteArray) (n : Nat) (ret : Option FieldType) (rm : Room) (As : List Value) (wc : va_W) (post : UInt64 → va_W → Prop) : Prop := ∀ sz, Met l y [.code y b n ret] rm (va_Pc As (preW G wc sz)) (va_Qd post (posW G wc sz) (va_A wc sz)) rm.cells rm.slots (va_A wc sz)
def CtV (l : Launch) (G : GX) (y : MethodName) (b : ByteArray) (n : Nat) (ret : Option FieldType) (rm : Room) (As : List Value) (wc : va_W) (post : va_W → Prop) : Prop := ∀ sz, Met l y [.code y b n ret] rm (va_Pc As (preW G wc sz)) (va_Qv post (posW G wc sz) (va_A wc sz)) rm.cells rm.slots (va_A wc sz)
/-- the end that a walk owes -/
def RQ (K : KX) (G : GX) (ret : Option FieldType) (nc ns : Nat) (QQ : va_W → Nat → Array Value → State → Outcome → State → Prop) : Prop :=
  (kme K).sig.returnType = ret ∧ (kme K).locks = false ∧ ∃ (wc : va_W) (sz : Nat), kQ K = MQ (kb K) (QQ wc sz) (ka K) (ks K) nc ns (va_A wc sz) ∧ kA K = va_A wc sz ∧ kH K = (ks K).heap
def RI (K : KX) (G : GX) (ret : Option FieldType) (nc ns : Nat) (post : Int → va_W → Prop) : Prop := RQ K G ret nc ns (fun wc sz => va_Qi (qI post) (posW G wc sz) (va_A wc sz))
def RLg (K : KX) (G : GX) (ret : Option FieldType) (nc ns : Nat) (post : Int → va_W → Prop) : Prop := RQ K G ret nc ns (fun wc sz => va_Ql (qL post) (posW G wc sz) (va_A wc sz))
def RD (K : KX) (G : GX) (ret : Option FieldType) (nc ns : Nat) (post : UInt64 → va_W → Prop) : Prop := RQ K G ret nc ns (fun wc sz => va_Qd post (posW G wc sz) (va_A wc sz))
def RV (K : KX) (G : GX) (ret : Option FieldType) (nc ns : Nat) (post : va_W → Prop) : Prop := RQ K G ret nc ns (fun wc sz => va_Qv post (posW G wc sz) (va_A wc sz))
theorem met_of {l : Launch} {G : GX} {y : MethodName} {b : ByteArray} {n : Nat} {ret : Option FieldType} {rm : Room} {As : List Value} {wc : va_W} {sz : Nat} (QQ : va_W → Nat → Array Value → State → Outcome → State → Prop) (hy : plainName y.cls = true) (lv0 : List (Nat × Value)) (hlv : lv_args 0 As = lv0) (hlen : (lg_sl As).length ≤ n)
    (body : ∀ K : KX, kl K = l → (kme K).name = y.name → SK K G rm b n y.cls → RQ K G ret rm.cells rm.slots QQ → SW K G n 0 0 0 lv0 [] wc) : Met l y [.code y b n ret] rm (va_Pc As (preW G wc sz)) (QQ wc sz) rm.cells rm.slots (va_A wc sz) := by
  refine Met.ofW (cc := b) (maxL := n) (ret := ret) hy rfl ?_
  intro p e s m args below meth c s₁ B hml hv
  obtain ⟨rfl, hsz, hP, hK, hD⟩ := hv
  subst hsz
  subst hlv
  have h := body (p, l, e, rm, s, m, As.toArray, below, meth, c, va_A wc s.heap.size, s.heap, MQ below (QQ wc s.heap.size) As.toArray s rm.cells rm.slots (va_A wc s.heap.size)) rfl (name_of_methodNamed B.named B.method).1 ⟨B.exec, B.bytes, hml, findClass_of_methodNamed B.named, hK, fun q h => Or.inr h, rfl⟩ ⟨B.returns, B.notSynchronized, wc, s.heap.size, rfl, rfl, rfl⟩
  have hl := lv_entry As (n := n) hlen
  rw [lg_entry_eq]
  exact h s.heap [] _ hP hD.self va_S.rf hl
section SCALL
variable {K : KX} {G : GX} {R0 : Room} {cc : ByteArray} {nL nc ns pc : Nat} {own : String} {lv : List (Nat × Value)} {st : List Value} {ws : va_W}
theorem s_iret {ty : FieldType} {z : Int} {post : Int → va_W → Prop} (X : SK K G R0 cc nL own) (Y : RI K G (some ty) nc ns post) (d : decode cc pc = .ok (.ireturn, 1)) (hn : narrow ty (.int (iI z)) = .int (iI z)) (h : post z ws) : SW K G nL nc ns pc lv [.int (iI z)] ws := by
  intro H locs ls hP hD hS hl
  obtain ⟨hr, hlk, wc, sz, hQ, hA, hH⟩ := Y
  show W _ _ _ _ _ _ _ _ _ _ _ _ _ _ (kQ K) _
  rw [hQ]
  rw [hA] at hD hS
  rw [hH] at hS
  exact W.zret X.1 X.2.1 hr hn (fun t ht hW => ⟨⟨iI z, ws, rfl, ⟨z, rfl, h⟩, by rw [ht]; exact hP, hD⟩, hS.F ht⟩) hS.2.2 d hlk
theorem s_lret {z : Int} {post : Int → va_W → Prop} (X : SK K G R0 cc nL own) (Y : RLg K G (some .long) nc ns post) (d : decode cc pc = .ok (.lreturn, 1)) (h : post z ws) : SW K G nL nc ns pc lv [.long (lI z)] ws := by
  intro H locs ls hP hD hS hl
  obtain ⟨hr, hlk, wc, sz, hQ, hA, hH⟩ := Y
  show W _ _ _ _ _ _ _ _ _ _ _ _ _ _ (kQ K) _
  rw [hQ]
  rw [hA] at hD hS
  rw [hH] at hS
  exact W.lret X.1 X.2.1 hr (fun t ht hW => ⟨⟨lI z, ws, rfl, ⟨z, rfl, h⟩, by rw [ht]; exact hP, hD⟩, hS.F ht⟩) hS.2.2 d hlk
theorem s_dret {z : UInt64} {post : UInt64 → va_W → Prop} (X : SK K G R0 cc nL own) (Y : RD K G (some .double) nc ns post) (d : decode cc pc = .ok (.dreturn, 1)) (h : post z ws) : SW K G nL nc ns pc lv [.double z] ws := by
  intro H locs ls hP hD hS hl
  obtain ⟨hr, hlk, wc, sz, hQ, hA, hH⟩ := Y
  show W _ _ _ _ _ _ _ _ _ _ _ _ _ _ (kQ K) _
  rw [hQ]
  rw [hA] at hD hS
  rw [hH] at hS
  exact W.dret X.1 X.2.1 hr (fun t ht hW => ⟨⟨z, ws, rfl, h, by rw [ht]; exact hP, hD⟩, hS.F ht⟩) hS.2.2 d hlk
theorem s_vret {post : va_W → Prop} (X : SK K G R0 cc nL own) (Y : RV K G none nc ns post) (d : decode cc pc = .ok (.return_, 1)) (h : post ws) : SW K G nL nc ns pc lv [] ws := by
  intro H locs ls hP hD hS hl
  obtain ⟨hr, hlk, wc, sz, hQ, hA, hH⟩ := Y
  show W _ _ _ _ _ _ _ _ _ _ _ _ _ _ (kQ K) _
  rw [hQ]
  rw [hA] at hD hS
  rw [hH] at hS
  exact W.vret X.1 X.2.1 hr (fun t ht hW => ⟨⟨ws, rfl, h, by rw [ht]; exact hP, hD⟩, hS.F ht⟩) hS.2.2 d hlk
/-- closed facts of a call -/
def okY (y : MethodName) (na : Nat) : Prop := y.cls ≠ "java/lang/invoke/MethodHandle" ∧ y.cls ≠ "java/lang/invoke/VarHandle" ∧ (parseMethodDescriptor y.desc).map (fun d => d.parameters.length) = some na
def LV (own : String) (idx : Nat) (y : MethodName) (b : ByteArray) (n : Nat) (ret : Option FieldType) (na : Nat) : Prop := TG (.methodLink own idx y) ∧ TG (.instanceMethod y) ∧ TG (.selects y.cls y y) ∧ TG (.initialized y.cls) ∧ TG (.code y b n ret) ∧ okY y na
def LSt (own : String) (idx : Nat) (y : MethodName) (b : ByteArray) (n : Nat) (ret : Option FieldType) (na : Nat) : Prop := TG (.methodLink own idx y) ∧ TG (.static y) ∧ TG (.initialized y.cls) ∧ TG (.code y b n ret) ∧ okY y na
def LI (own : String) (idx : Nat) (y : MethodName) (b : ByteArray) (n : Nat) (na : Nat) : Prop := TG (.methodLink own idx y) ∧ TG (.instanceMethod y) ∧ TG (.initialized y.cls) ∧ TG (.code y b n none) ∧ okY y na
def LSN (own : String) (idx : Nat) (y : MethodName) (host : String) (b : ByteArray) (n : Nat) (ret : Option FieldType) (na : Nat) : Prop := (own, idx, y, host) ∈ nests ∧ TG (.static y) ∧ TG (.initialized y.cls) ∧ TG (.code y b n ret) ∧ okY y na
def LIN (own : String) (idx : Nat) (y : MethodName) (host : String) (b : ByteArray) (n : Nat) (na : Nat) : Prop := (own, idx, y, host) ∈ nests ∧ TG (.instanceMethod y) ∧ TG (.initialized y.cls) ∧ TG (.code y b n none) ∧ okY y na
theorem good_self {ws : List Cond} (h : ∀ w ∈ ws, TG w) : GoodIn ws ws := fun w hw => ⟨hw, good_of_word (h w hw).2⟩
theorem LV.all {own : String} {idx : Nat} {y : MethodName} {b : ByteArray} {n : Nat} {ret : Option FieldType} {na : Nat} (L : LV own idx y b n ret na) : ∀ w ∈ wsV own idx y.cls y [.code y b n ret], TG w := by
  obtain ⟨h1, h2, h3, h4, h5, -⟩ := L
  intro w hw
  simp only [wsV, List.cons_append, List.nil_append, List.mem_cons, List.not_mem_nil, or_false] at hw
  rcases hw with rfl | rfl | rfl | rfl | rfl <;> assumption
theorem LSt.all {own : String} {idx : Nat} {y : MethodName} {b : ByteArray} {n : Nat} {ret : Option FieldType} {na : Nat} (L : LSt own idx y b n ret na) : ∀ w ∈ va_wsS own idx y [.code y b n ret], TG w := by
  obtain ⟨h1, h2, h3, h4, -⟩ := L
  intro w hw
  simp only [va_wsS, List.cons_append, List.nil_append, List.mem_cons, List.not_mem_nil, or_false] at hw
  rcases hw with rfl | rfl | rfl | rfl <;> assumption
theorem one_all {w0 : Cond} (h : TG w0) : ∀ w ∈ [w0], TG w := fun w hw => by rw [List.mem_singleton.mp hw]; exact h
theorem s_callIV {y : MethodName} {b : ByteArray} {n na idx : Nat} {ret : Option FieldType} {a : Nat} {rm : Room} {As rest : List Value} {post : Int → va_W → Prop} (X : SK K G R0 cc nL own) (L : LV own idx y b n ret na) (isC isR : List Nat) {wr wc : va_W} (hC : isC.map (fun i => ws[i]?) = wc.map some) (hR : isR.map (fun i => ws[i]?) = wr.map some) (hCn : va_nd isC = true) (hRn : va_nd isR = true) (hdis : ∀ i ∈ isR, i ∉ isC) (hc : CtI (kl K) G y b n ret rm (.ref a :: As) wc post) {ci N : Nat} {T : u_T} {fs : List Value} (hrc : wc[0]? = some (a, .inr (ci, fs))) (hcl : vwCl[ci]? = some (y.cls, T, N)) (d : decode cc pc = .ok (.invokevirtual idx, 3)) (hst : st = As.reverse ++ .ref a :: rest) (hna : As.length = na) (hcat : (rest.map fun v => v.category).sum ≤ 8) (hroom : (rm.frames + 1 ≤ R0.frames ∧ 8 + (n + 11) + rm.locals ≤ R0.locals) ∧ nc + rm.cells ≤ R0.cells ∧ ns + rm.slots ≤ R0.slots) (kk : ∀ (z : Int) (w9 : va_W), post z w9 → SW K G nL (nc + rm.cells) (ns + rm.slots) (pc + 3) lv (.int (iI z) :: rest) (wr ++ w9)) : SW K G nL nc ns pc lv st ws := by
  intro H locs ls hP hD hS hl
  subst hst
  have hPc := hP.sub isC (fm_of hC)
  have hDc := hD.sub isC hCn hC
  have hFc := va_free hD hS X.2.2.2.2.2.1 isC hC
  have hRk : kR K = R0 := X.2.2.2.2.2.2
  refine va_calli (va_runV (As := As) (rest := rest) ⟨X.1, X.2.1, X.2.2.1, X.2.2.2.1, ts_of X L.all⟩ (hc H.size) (cwV na (ts_of X L.all) (good_self L.all) rfl rfl rfl ⟨rfl, L.2.2.2.2.2⟩ ⟨by rw [hRk]; exact hroom.1.1, by rw [hRk]; exact hroom.1.2⟩) ⟨preW.blind, (by obtain ⟨cell, g1, g2, g3⟩ := va_recv X.2.2.2.2.1.1 hPc hcl hrc; exact ⟨cell, g1, g2, g3⟩), fun U hU hW => ⟨rfl, by rw [hU], by rw [hU]; exact hPc, GK.moved hW X.2.2.2.2.1, hDc.weaken (fun _ _ _ _ => trivial)⟩⟩ rfl hna hl.1 rfl (lv_room hcat) d ⟨by rw [hRk]; exact hroom.2.1, by rw [hRk]; exact hroom.2.2⟩) hS (fun q _ h => hFc q h) hFc (fun r u t H1 locs1 ht hvm hw hB hz1 hk1 hS1 => ?_)
  obtain ⟨z, rfl, hpost⟩ := hw
  obtain ⟨hP1, hD1⟩ := hB
  rw [ht] at hP1
  obtain ⟨hP2, hD2⟩ := va_join hP hD isC isR hC hR hRn hdis hk1 hFc hP1 hD1
  exact kk z u hpost H1 locs1 ls hP2 hD2 hS1 hl
theorem s_callLV {y : MethodName} {b : ByteArray} {n na idx : Nat} {ret : Option FieldType} {a : Nat} {rm : Room} {As rest : List Value} {post : Int → va_W → Prop} (X : SK K G R0 cc nL own) (L : LV own idx y b n ret na) (isC isR : List Nat) {wr wc : va_W} (hC : isC.map (fun i => ws[i]?) = wc.map some) (hR : isR.map (fun i => ws[i]?) = wr.map some) (hCn : va_nd isC = true) (hRn : va_nd isR = true) (hdis : ∀ i ∈ isR, i ∉ isC) (hc : CtL (kl K) G y b n ret rm (.ref a :: As) wc post) {ci N : Nat} {T : u_T} {fs : List Value} (hrc : wc[0]? = some (a, .inr (ci, fs))) (hcl : vwCl[ci]? = some (y.cls, T, N)) (d : decode cc pc = .ok (.invokevirtual idx, 3)) (hst : st = As.reverse ++ .ref a :: rest) (hna : As.length = na) (hcat : (rest.map fun v => v.category).sum ≤ 8) (hroom : (rm.frames + 1 ≤ R0.frames ∧ 8 + (n + 11) + rm.locals ≤ R0.locals) ∧ nc + rm.cells ≤ R0.cells ∧ ns + rm.slots ≤ R0.slots) (kk : ∀ (z : Int) (w9 : va_W), post z w9 → SW K G nL (nc + rm.cells) (ns + rm.slots) (pc + 3) lv (.long (lI z) :: rest) (wr ++ w9)) : SW K G nL nc ns pc lv st ws := by
  intro H locs ls hP hD hS hl
  subst hst
  have hPc := hP.sub isC (fm_of hC)
  have hDc := hD.sub isC hCn hC
  have hFc := va_free hD hS X.2.2.2.2.2.1 isC hC
  have hRk : kR K = R0 := X.2.2.2.2.2.2
  refine va_calll (va_runV (As := As) (rest := rest) ⟨X.1, X.2.1, X.2.2.1, X.2.2.2.1, ts_of X L.all⟩ (hc H.size) (cwV na (ts_of X L.all) (good_self L.all) rfl rfl rfl ⟨rfl, L.2.2.2.2.2⟩ ⟨by rw [hRk]; exact hroom.1.1, by rw [hRk]; exact hroom.1.2⟩) ⟨preW.blind, (by obtain ⟨cell, g1, g2, g3⟩ := va_recv X.2.2.2.2.1.1 hPc hcl hrc; exact ⟨cell, g1, g2, g3⟩), fun U hU hW => ⟨rfl, by rw [hU], by rw [hU]; exact hPc, GK.moved hW X.2.2.2.2.1, hDc.weaken (fun _ _ _ _ => trivial)⟩⟩ rfl hna hl.1 rfl (lv_room hcat) d ⟨by rw [hRk]; exact hroom.2.1, by rw [hRk]; exact hroom.2.2⟩) hS (fun q _ h => hFc q h) hFc (fun r u t H1 locs1 ht hvm hw hB hz1 hk1 hS1 => ?_)
  obtain ⟨z, rfl, hpost⟩ := hw
  obtain ⟨hP1, hD1⟩ := hB
  rw [ht] at hP1
  obtain ⟨hP2, hD2⟩ := va_join hP hD isC isR hC hR hRn hdis hk1 hFc hP1 hD1
  exact kk z u hpost H1 locs1 ls hP2 hD2 hS1 hl
theorem s_callDV {y : MethodName} {b : ByteArray} {n na idx : Nat} {ret : Option FieldType} {a : Nat} {rm : Room} {As rest : List Value} {post : UInt64 → va_W → Prop} (X : SK K G R0 cc nL own) (L : LV own idx y b n ret na) (isC isR : List Nat) {wr wc : va_W} (hC : isC.map (fun i => ws[i]?) = wc.map some) (hR : isR.map (fun i => ws[i]?) = wr.map some) (hCn : va_nd isC = true) (hRn : va_nd isR = true) (hdis : ∀ i ∈ isR, i ∉ isC) (hc : CtD (kl K) G y b n ret rm (.ref a :: As) wc post) {ci N : Nat} {T : u_T} {fs : List Value} (hrc : wc[0]? = some (a, .inr (ci, fs))) (hcl : vwCl[ci]? = some (y.cls, T, N)) (d : decode cc pc = .ok (.invokevirtual idx, 3)) (hst : st = As.reverse ++ .ref a :: rest) (hna : As.length = na) (hcat : (rest.map fun v => v.category).sum ≤ 8) (hroom : (rm.frames + 1 ≤ R0.frames ∧ 8 + (n + 11) + rm.locals ≤ R0.locals) ∧ nc + rm.cells ≤ R0.cells ∧ ns + rm.slots ≤ R0.slots) (kk : ∀ (z : UInt64) (w9 : va_W), post z w9 → SW K G nL (nc + rm.cells) (ns + rm.slots) (pc + 3) lv (.double z :: rest) (wr ++ w9)) : SW K G nL nc ns pc lv st ws := by
  intro H locs ls hP hD hS hl
  subst hst
  have hPc := hP.sub isC (fm_of hC)
  have hDc := hD.sub isC hCn hC
  have hFc := va_free hD hS X.2.2.2.2.2.1 isC hC
  have hRk : kR K = R0 := X.2.2.2.2.2.2
  refine va_calld (va_runV (As := As) (rest := rest) ⟨X.1, X.2.1, X.2.2.1, X.2.2.2.1, ts_of X L.all⟩ (hc H.size) (cwV na (ts_of X L.all) (good_self L.all) rfl rfl rfl ⟨rfl, L.2.2.2.2.2⟩ ⟨by rw [hRk]; exact hroom.1.1, by rw [hRk]; exact hroom.1.2⟩) ⟨preW.blind, (by obtain ⟨cell, g1, g2, g3⟩ := va_recv X.2.2.2.2.1.1 hPc hcl hrc; exact ⟨cell, g1, g2, g3⟩), fun U hU hW => ⟨rfl, by rw [hU], by rw [hU]; exact hPc, GK.moved hW X.2.2.2.2.1, hDc.weaken (fun _ _ _ _ => trivial)⟩⟩ rfl hna hl.1 rfl (lv_room hcat) d ⟨by rw [hRk]; exact hroom.2.1, by rw [hRk]; exact hroom.2.2⟩) hS (fun q _ h => hFc q h) hFc (fun r u t H1 locs1 ht hvm hw hB hz1 hk1 hS1 => ?_)
  obtain ⟨hP1, hD1⟩ := hB
  rw [ht] at hP1
  obtain ⟨hP2, hD2⟩ := va_join hP hD isC isR hC hR hRn hdis hk1 hFc hP1 hD1
  exact kk r u hw H1 locs1 ls hP2 hD2 hS1 hl
theorem s_callVV {y : MethodName} {b : ByteArray} {n na idx : Nat} {ret : Option FieldType} {a : Nat} {rm : Room} {As rest : List Value} {post : va_W → Prop} (X : SK K G R0 cc nL own) (L : LV own idx y b n ret na) (isC isR : List Nat) {wr wc : va_W} (hC : isC.map (fun i => ws[i]?) = wc.map some) (hR : isR.map (fun i => ws[i]?) = wr.map some) (hCn : va_nd isC = true) (hRn : va_nd isR = true) (hdis : ∀ i ∈ isR, i ∉ isC) (hc : CtV (kl K) G y b n ret rm (.ref a :: As) wc post) {ci N : Nat} {T : u_T} {fs : List Value} (hrc : wc[0]? = some (a, .inr (ci, fs))) (hcl : vwCl[ci]? = some (y.cls, T, N)) (d : decode cc pc = .ok (.invokevirtual idx, 3)) (hst : st = As.reverse ++ .ref a :: rest) (hna : As.length = na) (hcat : (rest.map fun v => v.category).sum ≤ 8) (hroom : (rm.frames + 1 ≤ R0.frames ∧ 8 + (n + 11) + rm.locals ≤ R0.locals) ∧ nc + rm.cells ≤ R0.cells ∧ ns + rm.slots ≤ R0.slots) (kk : ∀ (w9 : va_W), post w9 → SW K G nL (nc + rm.cells) (ns + rm.slots) (pc + 3) lv (rest) (wr ++ w9)) : SW K G nL nc ns pc lv st ws := by
  intro H locs ls hP hD hS hl
  subst hst
  have hPc := hP.sub isC (fm_of hC)
  have hDc := hD.sub isC hCn hC
  have hFc := va_free hD hS X.2.2.2.2.2.1 isC hC
  have hRk : kR K = R0 := X.2.2.2.2.2.2
  refine va_callv (va_runV (As := As) (rest := rest) ⟨X.1, X.2.1, X.2.2.1, X.2.2.2.1, ts_of X L.all⟩ (hc H.size) (cwV na (ts_of X L.all) (good_self L.all) rfl rfl rfl ⟨rfl, L.2.2.2.2.2⟩ ⟨by rw [hRk]; exact hroom.1.1, by rw [hRk]; exact hroom.1.2⟩) ⟨preW.blind, (by obtain ⟨cell, g1, g2, g3⟩ := va_recv X.2.2.2.2.1.1 hPc hcl hrc; exact ⟨cell, g1, g2, g3⟩), fun U hU hW => ⟨rfl, by rw [hU], by rw [hU]; exact hPc, GK.moved hW X.2.2.2.2.1, hDc.weaken (fun _ _ _ _ => trivial)⟩⟩ rfl hna hl.1 rfl (lv_room hcat) d ⟨by rw [hRk]; exact hroom.2.1, by rw [hRk]; exact hroom.2.2⟩) hS (fun q _ h => hFc q h) hFc (fun u t H1 locs1 ht hvm hw hB hz1 hk1 hS1 => ?_)
  obtain ⟨hP1, hD1⟩ := hB
  rw [ht] at hP1
  obtain ⟨hP2, hD2⟩ := va_join hP hD isC isR hC hR hRn hdis hk1 hFc hP1 hD1
  exact kk u hw H1 locs1 ls hP2 hD2 hS1 hl
theorem s_callIS {y : MethodName} {b : ByteArray} {n na idx : Nat} {ret : Option FieldType} {rm : Room} {As rest : List Value} {post : Int → va_W → Prop} (X : SK K G R0 cc nL own) (L : LSt own idx y b n ret na) (isC isR : List Nat) {wr wc : va_W} (hC : isC.map (fun i => ws[i]?) = wc.map some) (hR : isR.map (fun i => ws[i]?) = wr.map some) (hCn : va_nd isC = true) (hRn : va_nd isR = true) (hdis : ∀ i ∈ isR, i ∉ isC) (hc : CtI (kl K) G y b n ret rm As wc post) (d : decode cc pc = .ok (.invokestatic idx, 3)) (hst : st = As.reverse ++ rest) (hna : As.length = na) (hcat : (rest.map fun v => v.category).sum ≤ 8) (hroom : (rm.frames + 1 ≤ R0.frames ∧ 8 + (n + 11) + rm.locals ≤ R0.locals) ∧ nc + rm.cells ≤ R0.cells ∧ ns + rm.slots ≤ R0.slots) (kk : ∀ (z : Int) (w9 : va_W), post z w9 → SW K G nL (nc + rm.cells) (ns + rm.slots) (pc + 3) lv (.int (iI z) :: rest) (wr ++ w9)) : SW K G nL nc ns pc lv st ws := by
  intro H locs ls hP hD hS hl
  subst hst
  have hPc := hP.sub isC (fm_of hC)
  have hDc := hD.sub isC hCn hC
  have hFc := va_free hD hS X.2.2.2.2.2.1 isC hC
  have hRk : kR K = R0 := X.2.2.2.2.2.2
  refine va_calli (va_runS (As := As) (rest := rest) ⟨X.1, X.2.1, X.2.2.1, X.2.2.2.1, ts_of X L.all⟩ (hc H.size) (va_cwS na (ts_of X L.all) (good_self L.all) rfl rfl rfl L.2.2.2.2 ⟨by rw [hRk]; exact hroom.1.1, by rw [hRk]; exact hroom.1.2⟩) ⟨preW.blind, fun U hU hW => ⟨rfl, by rw [hU], by rw [hU]; exact hPc, GK.moved hW X.2.2.2.2.1, hDc.weaken (fun _ _ _ _ => trivial)⟩⟩ rfl hna hl.1 rfl (lv_room hcat) d ⟨by rw [hRk]; exact hroom.2.1, by rw [hRk]; exact hroom.2.2⟩) hS (fun q _ h => hFc q h) hFc (fun r u t H1 locs1 ht hvm hw hB hz1 hk1 hS1 => ?_)
  obtain ⟨z, rfl, hpost⟩ := hw
  obtain ⟨hP1, hD1⟩ := hB
  rw [ht] at hP1
  obtain ⟨hP2, hD2⟩ := va_join hP hD isC isR hC hR hRn hdis hk1 hFc hP1 hD1
  exact kk z u hpost H1 locs1 ls hP2 hD2 hS1 hl
theorem s_callLS {y : MethodName} {b : ByteArray} {n na idx : Nat} {ret : Option FieldType} {rm : Room} {As rest : List Value} {post : Int → va_W → Prop} (X : SK K G R0 cc nL own) (L : LSt own idx y b n ret na) (isC isR : List Nat) {wr wc : va_W} (hC : isC.map (fun i => ws[i]?) = wc.map some) (hR : isR.map (fun i => ws[i]?) = wr.map some) (hCn : va_nd isC = true) (hRn : va_nd isR = true) (hdis : ∀ i ∈ isR, i ∉ isC) (hc : CtL (kl K) G y b n ret rm As wc post) (d : decode cc pc = .ok (.invokestatic idx, 3)) (hst : st = As.reverse ++ rest) (hna : As.length = na) (hcat : (rest.map fun v => v.category).sum ≤ 8) (hroom : (rm.frames + 1 ≤ R0.frames ∧ 8 + (n + 11) + rm.locals ≤ R0.locals) ∧ nc + rm.cells ≤ R0.cells ∧ ns + rm.slots ≤ R0.slots) (kk : ∀ (z : Int) (w9 : va_W), post z w9 → SW K G nL (nc + rm.cells) (ns + rm.slots) (pc + 3) lv (.long (lI z) :: rest) (wr ++ w9)) : SW K G nL nc ns pc lv st ws := by
  intro H locs ls hP hD hS hl
  subst hst
  have hPc := hP.sub isC (fm_of hC)
  have hDc := hD.sub isC hCn hC
  have hFc := va_free hD hS X.2.2.2.2.2.1 isC hC
  have hRk : kR K = R0 := X.2.2.2.2.2.2
  refine va_calll (va_runS (As := As) (rest := rest) ⟨X.1, X.2.1, X.2.2.1, X.2.2.2.1, ts_of X L.all⟩ (hc H.size) (va_cwS na (ts_of X L.all) (good_self L.all) rfl rfl rfl L.2.2.2.2 ⟨by rw [hRk]; exact hroom.1.1, by rw [hRk]; exact hroom.1.2⟩) ⟨preW.blind, fun U hU hW => ⟨rfl, by rw [hU], by rw [hU]; exact hPc, GK.moved hW X.2.2.2.2.1, hDc.weaken (fun _ _ _ _ => trivial)⟩⟩ rfl hna hl.1 rfl (lv_room hcat) d ⟨by rw [hRk]; exact hroom.2.1, by rw [hRk]; exact hroom.2.2⟩) hS (fun q _ h => hFc q h) hFc (fun r u t H1 locs1 ht hvm hw hB hz1 hk1 hS1 => ?_)
  obtain ⟨z, rfl, hpost⟩ := hw
  obtain ⟨hP1, hD1⟩ := hB
  rw [ht] at hP1
  obtain ⟨hP2, hD2⟩ := va_join hP hD isC isR hC hR hRn hdis hk1 hFc hP1 hD1
  exact kk z u hpost H1 locs1 ls hP2 hD2 hS1 hl
theorem s_callDS {y : MethodName} {b : ByteArray} {n na idx : Nat} {ret : Option FieldType} {rm : Room} {As rest : List Value} {post : UInt64 → va_W → Prop} (X : SK K G R0 cc nL own) (L : LSt own idx y b n ret na) (isC isR : List Nat) {wr wc : va_W} (hC : isC.map (fun i => ws[i]?) = wc.map some) (hR : isR.map (fun i => ws[i]?) = wr.map some) (hCn : va_nd isC = true) (hRn : va_nd isR = true) (hdis : ∀ i ∈ isR, i ∉ isC) (hc : CtD (kl K) G y b n ret rm As wc post) (d : decode cc pc = .ok (.invokestatic idx, 3)) (hst : st = As.reverse ++ rest) (hna : As.length = na) (hcat : (rest.map fun v => v.category).sum ≤ 8) (hroom : (rm.frames + 1 ≤ R0.frames ∧ 8 + (n + 11) + rm.locals ≤ R0.locals) ∧ nc + rm.cells ≤ R0.cells ∧ ns + rm.slots ≤ R0.slots) (kk : ∀ (z : UInt64) (w9 : va_W), post z w9 → SW K G nL (nc + rm.cells) (ns + rm.slots) (pc + 3) lv (.double z :: rest) (wr ++ w9)) : SW K G nL nc ns pc lv st ws := by
  intro H locs ls hP hD hS hl
  subst hst
  have hPc := hP.sub isC (fm_of hC)
  have hDc := hD.sub isC hCn hC
  have hFc := va_free hD hS X.2.2.2.2.2.1 isC hC
  have hRk : kR K = R0 := X.2.2.2.2.2.2
  refine va_calld (va_runS (As := As) (rest := rest) ⟨X.1, X.2.1, X.2.2.1, X.2.2.2.1, ts_of X L.all⟩ (hc H.size) (va_cwS na (ts_of X L.all) (good_self L.all) rfl rfl rfl L.2.2.2.2 ⟨by rw [hRk]; exact hroom.1.1, by rw [hRk]; exact hroom.1.2⟩) ⟨preW.blind, fun U hU hW => ⟨rfl, by rw [hU], by rw [hU]; exact hPc, GK.moved hW X.2.2.2.2.1, hDc.weaken (fun _ _ _ _ => trivial)⟩⟩ rfl hna hl.1 rfl (lv_room hcat) d ⟨by rw [hRk]; exact hroom.2.1, by rw [hRk]; exact hroom.2.2⟩) hS (fun q _ h => hFc q h) hFc (fun r u t H1 locs1 ht hvm hw hB hz1 hk1 hS1 => ?_)
  obtain ⟨hP1, hD1⟩ := hB
  rw [ht] at hP1
  obtain ⟨hP2, hD2⟩ := va_join hP hD isC isR hC hR hRn hdis hk1 hFc hP1 hD1
  exact kk r u hw H1 locs1 ls hP2 hD2 hS1 hl
theorem s_callVS {y : MethodName} {b : ByteArray} {n na idx : Nat} {ret : Option FieldType} {rm : Room} {As rest : List Value} {post : va_W → Prop} (X : SK K G R0 cc nL own) (L : LSt own idx y b n ret na) (isC isR : List Nat) {wr wc : va_W} (hC : isC.map (fun i => ws[i]?) = wc.map some) (hR : isR.map (fun i => ws[i]?) = wr.map some) (hCn : va_nd isC = true) (hRn : va_nd isR = true) (hdis : ∀ i ∈ isR, i ∉ isC) (hc : CtV (kl K) G y b n ret rm As wc post) (d : decode cc pc = .ok (.invokestatic idx, 3)) (hst : st = As.reverse ++ rest) (hna : As.length = na) (hcat : (rest.map fun v => v.category).sum ≤ 8) (hroom : (rm.frames + 1 ≤ R0.frames ∧ 8 + (n + 11) + rm.locals ≤ R0.locals) ∧ nc + rm.cells ≤ R0.cells ∧ ns + rm.slots ≤ R0.slots) (kk : ∀ (w9 : va_W), post w9 → SW K G nL (nc + rm.cells) (ns + rm.slots) (pc + 3) lv (rest) (wr ++ w9)) : SW K G nL nc ns pc lv st ws := by
  intro H locs ls hP hD hS hl
  subst hst
  have hPc := hP.sub isC (fm_of hC)
  have hDc := hD.sub isC hCn hC
  have hFc := va_free hD hS X.2.2.2.2.2.1 isC hC
  have hRk : kR K = R0 := X.2.2.2.2.2.2
  refine va_callv (va_runS (As := As) (rest := rest) ⟨X.1, X.2.1, X.2.2.1, X.2.2.2.1, ts_of X L.all⟩ (hc H.size) (va_cwS na (ts_of X L.all) (good_self L.all) rfl rfl rfl L.2.2.2.2 ⟨by rw [hRk]; exact hroom.1.1, by rw [hRk]; exact hroom.1.2⟩) ⟨preW.blind, fun U hU hW => ⟨rfl, by rw [hU], by rw [hU]; exact hPc, GK.moved hW X.2.2.2.2.1, hDc.weaken (fun _ _ _ _ => trivial)⟩⟩ rfl hna hl.1 rfl (lv_room hcat) d ⟨by rw [hRk]; exact hroom.2.1, by rw [hRk]; exact hroom.2.2⟩) hS (fun q _ h => hFc q h) hFc (fun u t H1 locs1 ht hvm hw hB hz1 hk1 hS1 => ?_)
  obtain ⟨hP1, hD1⟩ := hB
  rw [ht] at hP1
  obtain ⟨hP2, hD2⟩ := va_join hP hD isC isR hC hR hRn hdis hk1 hFc hP1 hD1
  exact kk u hw H1 locs1 ls hP2 hD2 hS1 hl
theorem s_callVI {y : MethodName} {b : ByteArray} {n na idx : Nat} {a : Nat} {rm : Room} {As rest : List Value} {post : va_W → Prop} (X : SK K G R0 cc nL own) (L : LI own idx y b n na) (isC isR : List Nat) {wr wc : va_W} (hC : isC.map (fun i => ws[i]?) = wc.map some) (hR : isR.map (fun i => ws[i]?) = wr.map some) (hCn : va_nd isC = true) (hRn : va_nd isR = true) (hdis : ∀ i ∈ isR, i ∉ isC) (hc : CtV (kl K) G y b n none rm (.ref a :: As) wc post) (hin1 : y.name = "<init>") (d : decode cc pc = .ok (.invokespecial idx, 3)) (hst : st = As.reverse ++ .ref a :: rest) (hna : As.length = na) (hcat : (rest.map fun v => v.category).sum ≤ 8) (hroom : (rm.frames + 1 ≤ R0.frames ∧ 8 + (n + 11) + rm.locals ≤ R0.locals) ∧ nc + rm.cells ≤ R0.cells ∧ ns + rm.slots ≤ R0.slots) (kk : ∀ (w9 : va_W), post w9 → SW K G nL (nc + rm.cells) (ns + rm.slots) (pc + 3) lv (rest) (wr ++ w9)) : SW K G nL nc ns pc lv st ws := by
  intro H locs ls hP hD hS hl
  subst hst
  have hPc := hP.sub isC (fm_of hC)
  have hDc := hD.sub isC hCn hC
  have hFc := va_free hD hS X.2.2.2.2.2.1 isC hC
  have hRk : kR K = R0 := X.2.2.2.2.2.2
  refine va_callv (va_runI (As := As) (rest := rest) ⟨X.1, X.2.1, X.2.2.1, X.2.2.2.1, ts_of X (one_all L.2.2.2.1)⟩ (hc H.size) (cwI na (ts_of X (one_all L.2.2.2.1)) (good_self (one_all L.2.2.2.1)) rfl rfl rfl (X.tb L.2.2.1 _) (X.tb L.1 _) (X.tb L.2.1 _) hin1 L.2.2.2.2 ⟨by rw [hRk]; exact hroom.1.1, by rw [hRk]; exact hroom.1.2⟩) ⟨preW.blind, fun U hU hW => ⟨rfl, by rw [hU], by rw [hU]; exact hPc, GK.moved hW X.2.2.2.2.1, hDc.weaken (fun _ _ _ _ => trivial)⟩⟩ rfl hna hl.1 rfl (lv_room hcat) d ⟨by rw [hRk]; exact hroom.2.1, by rw [hRk]; exact hroom.2.2⟩) hS (fun q _ h => hFc q h) hFc (fun u t H1 locs1 ht hvm hw hB hz1 hk1 hS1 => ?_)
  obtain ⟨hP1, hD1⟩ := hB
  rw [ht] at hP1
  obtain ⟨hP2, hD2⟩ := va_join hP hD isC isR hC hR hRn hdis hk1 hFc hP1 hD1
  exact kk u hw H1 locs1 ls hP2 hD2 hS1 hl
theorem s_callISN {y : MethodName} {b : ByteArray} {n na idx : Nat} {ret : Option FieldType} {host : String} {rm : Room} {As rest : List Value} {post : Int → va_W → Prop} (X : SK K G R0 cc nL own) (L : LSN own idx y host b n ret na) (isC isR : List Nat) {wr wc : va_W} (hC : isC.map (fun i => ws[i]?) = wc.map some) (hR : isR.map (fun i => ws[i]?) = wr.map some) (hCn : va_nd isC = true) (hRn : va_nd isR = true) (hdis : ∀ i ∈ isR, i ∉ isC) (hc : CtI (kl K) G y b n ret rm As wc post) (d : decode cc pc = .ok (.invokestatic idx, 3)) (hst : st = As.reverse ++ rest) (hna : As.length = na) (hcat : (rest.map fun v => v.category).sum ≤ 8) (hroom : (rm.frames + 1 ≤ R0.frames ∧ 8 + (n + 11) + rm.locals ≤ R0.locals) ∧ nc + rm.cells ≤ R0.cells ∧ ns + rm.slots ≤ R0.slots) (kk : ∀ (z : Int) (w9 : va_W), post z w9 → SW K G nL (nc + rm.cells) (ns + rm.slots) (pc + 3) lv (.int (iI z) :: rest) (wr ++ w9)) : SW K G nL nc ns pc lv st ws := by
  intro H locs ls hP hD hS hl
  subst hst
  have hPc := hP.sub isC (fm_of hC)
  have hDc := hD.sub isC hCn hC
  have hFc := va_free hD hS X.2.2.2.2.2.1 isC hC
  have hRk : kR K = R0 := X.2.2.2.2.2.2
  refine va_calli (va_runSN (As := As) (rest := rest) ⟨X.1, X.2.1, X.2.2.1, X.2.2.2.1, ts_of X (one_all L.2.2.2.1)⟩ (hc H.size) ⟨va_cnB na (ts_of X (one_all L.2.2.2.1)) (good_self (one_all L.2.2.2.1)) rfl rfl rfl (X.2.2.2.2.1.2.2 _ L.1) (X.tb L.2.2.1 _) L.2.2.2.2 ⟨by rw [hRk]; exact hroom.1.1, by rw [hRk]; exact hroom.1.2⟩, X.tb L.2.1 _, trivial⟩ ⟨preW.blind, fun U hU hW => ⟨rfl, by rw [hU], by rw [hU]; exact hPc, GK.moved hW X.2.2.2.2.1, hDc.weaken (fun _ _ _ _ => trivial)⟩⟩ rfl hna hl.1 rfl (lv_room hcat) d ⟨by rw [hRk]; exact hroom.2.1, by rw [hRk]; exact hroom.2.2⟩) hS (fun q _ h => hFc q h) hFc (fun r u t H1 locs1 ht hvm hw hB hz1 hk1 hS1 => ?_)
  obtain ⟨z, rfl, hpost⟩ := hw
  obtain ⟨hP1, hD1⟩ := hB
  rw [ht] at hP1
  obtain ⟨hP2, hD2⟩ := va_join hP hD isC isR hC hR hRn hdis hk1 hFc hP1 hD1
  exact kk z u hpost H1 locs1 ls hP2 hD2 hS1 hl
theorem s_callLSN {y : MethodName} {b : ByteArray} {n na idx : Nat} {ret : Option FieldType} {host : String} {rm : Room} {As rest : List Value} {post : Int → va_W → Prop} (X : SK K G R0 cc nL own) (L : LSN own idx y host b n ret na) (isC isR : List Nat) {wr wc : va_W} (hC : isC.map (fun i => ws[i]?) = wc.map some) (hR : isR.map (fun i => ws[i]?) = wr.map some) (hCn : va_nd isC = true) (hRn : va_nd isR = true) (hdis : ∀ i ∈ isR, i ∉ isC) (hc : CtL (kl K) G y b n ret rm As wc post) (d : decode cc pc = .ok (.invokestatic idx, 3)) (hst : st = As.reverse ++ rest) (hna : As.length = na) (hcat : (rest.map fun v => v.category).sum ≤ 8) (hroom : (rm.frames + 1 ≤ R0.frames ∧ 8 + (n + 11) + rm.locals ≤ R0.locals) ∧ nc + rm.cells ≤ R0.cells ∧ ns + rm.slots ≤ R0.slots) (kk : ∀ (z : Int) (w9 : va_W), post z w9 → SW K G nL (nc + rm.cells) (ns + rm.slots) (pc + 3) lv (.long (lI z) :: rest) (wr ++ w9)) : SW K G nL nc ns pc lv st ws := by
  intro H locs ls hP hD hS hl
  subst hst
  have hPc := hP.sub isC (fm_of hC)
  have hDc := hD.sub isC hCn hC
  have hFc := va_free hD hS X.2.2.2.2.2.1 isC hC
  have hRk : kR K = R0 := X.2.2.2.2.2.2
  refine va_calll (va_runSN (As := As) (rest := rest) ⟨X.1, X.2.1, X.2.2.1, X.2.2.2.1, ts_of X (one_all L.2.2.2.1)⟩ (hc H.size) ⟨va_cnB na (ts_of X (one_all L.2.2.2.1)) (good_self (one_all L.2.2.2.1)) rfl rfl rfl (X.2.2.2.2.1.2.2 _ L.1) (X.tb L.2.2.1 _) L.2.2.2.2 ⟨by rw [hRk]; exact hroom.1.1, by rw [hRk]; exact hroom.1.2⟩, X.tb L.2.1 _, trivial⟩ ⟨preW.blind, fun U hU hW => ⟨rfl, by rw [hU], by rw [hU]; exact hPc, GK.moved hW X.2.2.2.2.1, hDc.weaken (fun _ _ _ _ => trivial)⟩⟩ rfl hna hl.1 rfl (lv_room hcat) d ⟨by rw [hRk]; exact hroom.2.1, by rw [hRk]; exact hroom.2.2⟩) hS (fun q _ h => hFc q h) hFc (fun r u t H1 locs1 ht hvm hw hB hz1 hk1 hS1 => ?_)
  obtain ⟨z, rfl, hpost⟩ := hw
  obtain ⟨hP1, hD1⟩ := hB
  rw [ht] at hP1
  obtain ⟨hP2, hD2⟩ := va_join hP hD isC isR hC hR hRn hdis hk1 hFc hP1 hD1
  exact kk z u hpost H1 locs1 ls hP2 hD2 hS1 hl
theorem s_callDSN {y : MethodName} {b : ByteArray} {n na idx : Nat} {ret : Option FieldType} {host : String} {rm : Room} {As rest : List Value} {post : UInt64 → va_W → Prop} (X : SK K G R0 cc nL own) (L : LSN own idx y host b n ret na) (isC isR : List Nat) {wr wc : va_W} (hC : isC.map (fun i => ws[i]?) = wc.map some) (hR : isR.map (fun i => ws[i]?) = wr.map some) (hCn : va_nd isC = true) (hRn : va_nd isR = true) (hdis : ∀ i ∈ isR, i ∉ isC) (hc : CtD (kl K) G y b n ret rm As wc post) (d : decode cc pc = .ok (.invokestatic idx, 3)) (hst : st = As.reverse ++ rest) (hna : As.length = na) (hcat : (rest.map fun v => v.category).sum ≤ 8) (hroom : (rm.frames + 1 ≤ R0.frames ∧ 8 + (n + 11) + rm.locals ≤ R0.locals) ∧ nc + rm.cells ≤ R0.cells ∧ ns + rm.slots ≤ R0.slots) (kk : ∀ (z : UInt64) (w9 : va_W), post z w9 → SW K G nL (nc + rm.cells) (ns + rm.slots) (pc + 3) lv (.double z :: rest) (wr ++ w9)) : SW K G nL nc ns pc lv st ws := by
  intro H locs ls hP hD hS hl
  subst hst
  have hPc := hP.sub isC (fm_of hC)
  have hDc := hD.sub isC hCn hC
  have hFc := va_free hD hS X.2.2.2.2.2.1 isC hC
  have hRk : kR K = R0 := X.2.2.2.2.2.2
  refine va_calld (va_runSN (As := As) (rest := rest) ⟨X.1, X.2.1, X.2.2.1, X.2.2.2.1, ts_of X (one_all L.2.2.2.1)⟩ (hc H.size) ⟨va_cnB na (ts_of X (one_all L.2.2.2.1)) (good_self (one_all L.2.2.2.1)) rfl rfl rfl (X.2.2.2.2.1.2.2 _ L.1) (X.tb L.2.2.1 _) L.2.2.2.2 ⟨by rw [hRk]; exact hroom.1.1, by rw [hRk]; exact hroom.1.2⟩, X.tb L.2.1 _, trivial⟩ ⟨preW.blind, fun U hU hW => ⟨rfl, by rw [hU], by rw [hU]; exact hPc, GK.moved hW X.2.2.2.2.1, hDc.weaken (fun _ _ _ _ => trivial)⟩⟩ rfl hna hl.1 rfl (lv_room hcat) d ⟨by rw [hRk]; exact hroom.2.1, by rw [hRk]; exact hroom.2.2⟩) hS (fun q _ h => hFc q h) hFc (fun r u t H1 locs1 ht hvm hw hB hz1 hk1 hS1 => ?_)
  obtain ⟨hP1, hD1⟩ := hB
  rw [ht] at hP1
  obtain ⟨hP2, hD2⟩ := va_join hP hD isC isR hC hR hRn hdis hk1 hFc hP1 hD1
  exact kk r u hw H1 locs1 ls hP2 hD2 hS1 hl
theorem s_callVSN {y : MethodName} {b : ByteArray} {n na idx : Nat} {ret : Option FieldType} {host : String} {rm : Room} {As rest : List Value} {post : va_W → Prop} (X : SK K G R0 cc nL own) (L : LSN own idx y host b n ret na) (isC isR : List Nat) {wr wc : va_W} (hC : isC.map (fun i => ws[i]?) = wc.map some) (hR : isR.map (fun i => ws[i]?) = wr.map some) (hCn : va_nd isC = true) (hRn : va_nd isR = true) (hdis : ∀ i ∈ isR, i ∉ isC) (hc : CtV (kl K) G y b n ret rm As wc post) (d : decode cc pc = .ok (.invokestatic idx, 3)) (hst : st = As.reverse ++ rest) (hna : As.length = na) (hcat : (rest.map fun v => v.category).sum ≤ 8) (hroom : (rm.frames + 1 ≤ R0.frames ∧ 8 + (n + 11) + rm.locals ≤ R0.locals) ∧ nc + rm.cells ≤ R0.cells ∧ ns + rm.slots ≤ R0.slots) (kk : ∀ (w9 : va_W), post w9 → SW K G nL (nc + rm.cells) (ns + rm.slots) (pc + 3) lv (rest) (wr ++ w9)) : SW K G nL nc ns pc lv st ws := by
  intro H locs ls hP hD hS hl
  subst hst
  have hPc := hP.sub isC (fm_of hC)
  have hDc := hD.sub isC hCn hC
  have hFc := va_free hD hS X.2.2.2.2.2.1 isC hC
  have hRk : kR K = R0 := X.2.2.2.2.2.2
  refine va_callv (va_runSN (As := As) (rest := rest) ⟨X.1, X.2.1, X.2.2.1, X.2.2.2.1, ts_of X (one_all L.2.2.2.1)⟩ (hc H.size) ⟨va_cnB na (ts_of X (one_all L.2.2.2.1)) (good_self (one_all L.2.2.2.1)) rfl rfl rfl (X.2.2.2.2.1.2.2 _ L.1) (X.tb L.2.2.1 _) L.2.2.2.2 ⟨by rw [hRk]; exact hroom.1.1, by rw [hRk]; exact hroom.1.2⟩, X.tb L.2.1 _, trivial⟩ ⟨preW.blind, fun U hU hW => ⟨rfl, by rw [hU], by rw [hU]; exact hPc, GK.moved hW X.2.2.2.2.1, hDc.weaken (fun _ _ _ _ => trivial)⟩⟩ rfl hna hl.1 rfl (lv_room hcat) d ⟨by rw [hRk]; exact hroom.2.1, by rw [hRk]; exact hroom.2.2⟩) hS (fun q _ h => hFc q h) hFc (fun u t H1 locs1 ht hvm hw hB hz1 hk1 hS1 => ?_)
  obtain ⟨hP1, hD1⟩ := hB
  rw [ht] at hP1
  obtain ⟨hP2, hD2⟩ := va_join hP hD isC isR hC hR hRn hdis hk1 hFc hP1 hD1
  exact kk u hw H1 locs1 ls hP2 hD2 hS1 hl
theorem s_callVIN {y : MethodName} {b : ByteArray} {n na idx : Nat} {a : Nat} {host : String} {rm : Room} {As rest : List Value} {post : va_W → Prop} (X : SK K G R0 cc nL own) (L : LIN own idx y host b n na) (isC isR : List Nat) {wr wc : va_W} (hC : isC.map (fun i => ws[i]?) = wc.map some) (hR : isR.map (fun i => ws[i]?) = wr.map some) (hCn : va_nd isC = true) (hRn : va_nd isR = true) (hdis : ∀ i ∈ isR, i ∉ isC) (hc : CtV (kl K) G y b n none rm (.ref a :: As) wc post) (hin1 : y.name = "<init>") (d : decode cc pc = .ok (.invokespecial idx, 3)) (hst : st = As.reverse ++ .ref a :: rest) (hna : As.length = na) (hcat : (rest.map fun v => v.category).sum ≤ 8) (hroom : (rm.frames + 1 ≤ R0.frames ∧ 8 + (n + 11) + rm.locals ≤ R0.locals) ∧ nc + rm.cells ≤ R0.cells ∧ ns + rm.slots ≤ R0.slots) (kk : ∀ (w9 : va_W), post w9 → SW K G nL (nc + rm.cells) (ns + rm.slots) (pc + 3) lv (rest) (wr ++ w9)) : SW K G nL nc ns pc lv st ws := by
  intro H locs ls hP hD hS hl
  subst hst
  have hPc := hP.sub isC (fm_of hC)
  have hDc := hD.sub isC hCn hC
  have hFc := va_free hD hS X.2.2.2.2.2.1 isC hC
  have hRk : kR K = R0 := X.2.2.2.2.2.2
  refine va_callv (va_runIN (As := As) (rest := rest) ⟨X.1, X.2.1, X.2.2.1, X.2.2.2.1, ts_of X (one_all L.2.2.2.1)⟩ (hc H.size) ⟨va_cnB na (ts_of X (one_all L.2.2.2.1)) (good_self (one_all L.2.2.2.1)) rfl rfl rfl (X.2.2.2.2.1.2.2 _ L.1) (X.tb L.2.2.1 _) L.2.2.2.2 ⟨by rw [hRk]; exact hroom.1.1, by rw [hRk]; exact hroom.1.2⟩, hin1, X.tb L.2.1 _⟩ ⟨preW.blind, fun U hU hW => ⟨rfl, by rw [hU], by rw [hU]; exact hPc, GK.moved hW X.2.2.2.2.1, hDc.weaken (fun _ _ _ _ => trivial)⟩⟩ rfl hna hl.1 rfl (lv_room hcat) d ⟨by rw [hRk]; exact hroom.2.1, by rw [hRk]; exact hroom.2.2⟩) hS (fun q _ h => hFc q h) hFc (fun u t H1 locs1 ht hvm hw hB hz1 hk1 hS1 => ?_)
  obtain ⟨hP1, hD1⟩ := hB
  rw [ht] at hP1
  obtain ⟨hP2, hD2⟩ := va_join hP hD isC isR hC hR hRn hdis hk1 hFc hP1 hD1
  exact kk u hw H1 locs1 ls hP2 hD2 hS1 hl
end SCALL
