section SR2
variable {K : KX} {G : GX} {R0 : Room} {cc : ByteArray} {nL nc ns pc : Nat} {own : String} {lv : List (Nat × Value)} {st : List Value} {ws : va_W}
/-- dcmpl; ifle -/
theorem s_dbig {off : Int} {v : UInt64} (X : SK K G R0 cc nL own) (tgt : Nat) (d1 : decode cc pc = .ok (.dcmp .l, 1)) (d : decode cc (pc + 1) = .ok (.ifCond .le off, 3)) (ht : ((pc + 1 : Nat) : Int) + off = (tgt : Int)) (kt : ¬ big v → SW K G nL nc ns tgt lv st ws) (kf : big v → SW K G nL nc ns (pc + 4) lv st ws) : SW K G nL nc ns pc lv (.double 9218868437227405311 :: .double v :: st) ws := by
  refine s_dcmp X d1 ?_
  intro H locs ls hP hD hS hl
  exact lv_if_le X.1 X.2.1 d ht (fun h => kt (fun q => q h) H locs ls hP hD hS hl) (fun h => kf h H locs ls hP hD hS hl)
end SR2
