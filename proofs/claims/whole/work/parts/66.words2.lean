/-! closed facts, second part: classes made, arrays, Object's <init>, the handlers' classes, the law's helpers (written by wip/whole/cls14.py) -/
theorem ndX1 : ∀ j, j < 4 → defaultValue (tyX1 j) = vp_V [.null, .int (iI 0), .int (iI 0), .int (iI 0)] j := by
  intro j hj
  match j, hj with
  | 0, _ => rfl
  | 1, _ => rfl
  | 2, _ => rfl
  | 3, _ => rfl
  | k + 4, h => exact absurd h (by omega)
theorem ndX4 : ∀ j, j < 2 → defaultValue (tyX4 j) = vp_V [.null, .int (iI 0)] j := by
  intro j hj
  match j, hj with
  | 0, _ => rfl
  | 1, _ => rfl
  | k + 2, h => exact absurd h (by omega)
theorem ndX2 : ∀ j, j < 1 → defaultValue (tyX2 j) = vp_V [.null] j := by
  intro j hj
  match j, hj with
  | 0, _ => rfl
  | k + 1, h => exact absurd h (by omega)
theorem ndX0 : ∀ j, j < 1 → defaultValue (tyX0 j) = vp_V [.null] j := by
  intro j hj
  match j, hj with
  | 0, _ => rfl
  | k + 1, h => exact absurd h (by omega)
theorem ndX3 : ∀ j, j < 10 → defaultValue (tyX3 j) = vp_V [.int (iI 0), .int (iI 0), .long (lI 0), .double FP.dconst0, .null, .int (iI 0), .null, .null, .int (iI 0), .int (iI 0)] j := by
  intro j hj
  match j, hj with
  | 0, _ => rfl
  | 1, _ => rfl
  | 2, _ => rfl
  | 3, _ => rfl
  | 4, _ => rfl
  | 5, _ => rfl
  | 6, _ => rfl
  | 7, _ => rfl
  | 8, _ => rfl
  | 9, _ => rfl
  | k + 10, h => exact absurd h (by omega)
theorem ndX5 : ∀ j, j < 9 → defaultValue (tyX5 j) = vp_V [.null, .null, .null, .null, .null, .int (iI 0), .null, .null, .int (iI 0)] j := by
  intro j hj
  match j, hj with
  | 0, _ => rfl
  | 1, _ => rfl
  | 2, _ => rfl
  | 3, _ => rfl
  | 4, _ => rfl
  | 5, _ => rfl
  | 6, _ => rfl
  | 7, _ => rfl
  | 8, _ => rfl
  | k + 9, h => exact absurd h (by omega)
theorem ndX6 : ∀ j, j < 30 → defaultValue (tyX6 j) = vp_V [.int (iI 0), .int (iI 0), .null, .int (iI 0), .int (iI 0), .int (iI 0), .int (iI 0), .null, .int (iI 0), .long (lI 0), .double FP.dconst0, .int (iI 0), .int (iI 0), .int (iI 0), .null, .int (iI 0), .int (iI 0), .null, .null, .int (iI 0), .long (lI 0), .double FP.dconst0, .int (iI 0), .int (iI 0), .null, .int (iI 0), .int (iI 0), .null, .null, .int (iI 0)] j := by
  intro j hj
  match j, hj with
  | 0, _ => rfl
  | 1, _ => rfl
  | 2, _ => rfl
  | 3, _ => rfl
  | 4, _ => rfl
  | 5, _ => rfl
  | 6, _ => rfl
  | 7, _ => rfl
  | 8, _ => rfl
  | 9, _ => rfl
  | 10, _ => rfl
  | 11, _ => rfl
  | 12, _ => rfl
  | 13, _ => rfl
  | 14, _ => rfl
  | 15, _ => rfl
  | 16, _ => rfl
  | 17, _ => rfl
  | 18, _ => rfl
  | 19, _ => rfl
  | 20, _ => rfl
  | 21, _ => rfl
  | 22, _ => rfl
  | 23, _ => rfl
  | 24, _ => rfl
  | 25, _ => rfl
  | 26, _ => rfl
  | 27, _ => rfl
  | 28, _ => rfl
  | 29, _ => rfl
  | k + 30, h => exact absurd h (by omega)
theorem nl_X5_7 : NL RX5 7 2 RX1 TX1 4 := ⟨rfl, ⟨by decide +kernel, by decide +kernel⟩, ⟨by decide +kernel, by decide +kernel⟩, ⟨by decide +kernel, by decide +kernel⟩, us_X1⟩
theorem nl_X5_16 : NL RX5 16 5 RX4 TX4 2 := ⟨rfl, ⟨by decide +kernel, by decide +kernel⟩, ⟨by decide +kernel, by decide +kernel⟩, ⟨by decide +kernel, by decide +kernel⟩, us_X4⟩
theorem nl_X5_25 : NL RX5 25 3 RX2 TX2 1 := ⟨rfl, ⟨by decide +kernel, by decide +kernel⟩, ⟨by decide +kernel, by decide +kernel⟩, ⟨by decide +kernel, by decide +kernel⟩, us_X2⟩
theorem nl_X5_32 : NL RX5 32 1 RX0 TX0 1 := ⟨rfl, ⟨by decide +kernel, by decide +kernel⟩, ⟨by decide +kernel, by decide +kernel⟩, ⟨by decide +kernel, by decide +kernel⟩, us_X0⟩
theorem nl_X5_43 : NL RX5 43 4 RX3 TX3 10 := ⟨rfl, ⟨by decide +kernel, by decide +kernel⟩, ⟨by decide +kernel, by decide +kernel⟩, ⟨by decide +kernel, by decide +kernel⟩, us_X3⟩
theorem nl_L_8 : NL RL 8 6 RX5 TX5 9 := ⟨rfl, ⟨by decide +kernel, by decide +kernel⟩, ⟨by decide +kernel, by decide +kernel⟩, ⟨by decide +kernel, by decide +kernel⟩, us_X5⟩
theorem nl_L_34 : NL RL 34 7 RX6 TX6 30 := ⟨rfl, ⟨by decide +kernel, by decide +kernel⟩, ⟨by decide +kernel, by decide +kernel⟩, ⟨by decide +kernel, by decide +kernel⟩, us_X6⟩
theorem tw_arrB : TG (.arrayClass .byte) := ⟨by decide +kernel, by decide +kernel⟩
theorem tw_arrI : TG (.arrayClass .int) := ⟨by decide +kernel, by decide +kernel⟩
theorem tw_arrF : TG (.arrayClass .double) := ⟨by decide +kernel, by decide +kernel⟩
theorem tw_arrJ : TG (.arrayClass .long) := ⟨by decide +kernel, by decide +kernel⟩
theorem to_X0 : TG (.methodLink RX0 3 Lib.objectInit) := ⟨by decide +kernel, by decide +kernel⟩
theorem to_X1 : TG (.methodLink RX1 3 Lib.objectInit) := ⟨by decide +kernel, by decide +kernel⟩
theorem to_X2 : TG (.methodLink RX2 3 Lib.objectInit) := ⟨by decide +kernel, by decide +kernel⟩
theorem to_X3 : TG (.methodLink RX3 3 Lib.objectInit) := ⟨by decide +kernel, by decide +kernel⟩
theorem to_X4 : TG (.methodLink RX4 3 Lib.objectInit) := ⟨by decide +kernel, by decide +kernel⟩
theorem to_X5 : TG (.methodLink RX5 1 Lib.objectInit) := ⟨by decide +kernel, by decide +kernel⟩
theorem to_X6 : TG (.methodLink RX6 1 Lib.objectInit) := ⟨by decide +kernel, by decide +kernel⟩
theorem to_i : TG (.instanceMethod Lib.objectInit) := ⟨by decide +kernel, by decide +kernel⟩
theorem to_c : TG (.code Lib.objectInit ⟨#[0xb1]⟩ 1 none) := ⟨by decide +kernel, by decide +kernel⟩
theorem tk_L_13 : TG (.classLink RL 13 tISE) := ⟨by decide +kernel, by decide +kernel⟩
theorem tk_L_15 : TG (.classLink RL 15 tUOE) := ⟨by decide +kernel, by decide +kernel⟩
theorem tk_L_21 : TG (.classLink RL 21 tIOB) := ⟨by decide +kernel, by decide +kernel⟩
theorem tk_L_31 : TG (.classLink RL 31 tAIO) := ⟨by decide +kernel, by decide +kernel⟩
theorem tk_L_add : TG (.codeWith yL_add cL_add 4 (some .int) [(0, 9, 12, 13), (0, 9, 15, 15)]) := ⟨by decide +kernel, by decide +kernel⟩
theorem lk_L_37 : LH RL 37 yL_add cL_add 4 (some .int) [(0, 9, 12, 13), (0, 9, 15, 15)] 3 := ⟨⟨by decide +kernel, by decide +kernel⟩, ⟨by decide +kernel, by decide +kernel⟩, ⟨by decide +kernel, by decide +kernel⟩, tk_L_add, ⟨by decide +kernel, by decide +kernel, by decide +kernel⟩⟩
theorem tk_L_binary : TG (.codeWith yL_binary cL_binary 5 (some .int) [(0, 10, 13, 21)]) := ⟨by decide +kernel, by decide +kernel⟩
theorem lk_L_70 : LH RL 70 yL_binary cL_binary 5 (some .int) [(0, 10, 13, 21)] 4 := ⟨⟨by decide +kernel, by decide +kernel⟩, ⟨by decide +kernel, by decide +kernel⟩, ⟨by decide +kernel, by decide +kernel⟩, tk_L_binary, ⟨by decide +kernel, by decide +kernel, by decide +kernel⟩⟩
theorem tk_L_binaryReal : TG (.codeWith yL_binaryReal cL_binaryReal 4 (some .int) [(0, 8, 11, 21)]) := ⟨by decide +kernel, by decide +kernel⟩
theorem lk_L_74 : LH RL 74 yL_binaryReal cL_binaryReal 4 (some .int) [(0, 8, 11, 21)] 3 := ⟨⟨by decide +kernel, by decide +kernel⟩, ⟨by decide +kernel, by decide +kernel⟩, ⟨by decide +kernel, by decide +kernel⟩, tk_L_binaryReal, ⟨by decide +kernel, by decide +kernel, by decide +kernel⟩⟩
theorem tk_L_octet : TG (.codeWith yL_octet cL_octet 4 (some .int) [(0, 9, 12, 31)]) := ⟨by decide +kernel, by decide +kernel⟩
theorem lk_L_90 : LH RL 90 yL_octet cL_octet 4 (some .int) [(0, 9, 12, 31)] 3 := ⟨⟨by decide +kernel, by decide +kernel⟩, ⟨by decide +kernel, by decide +kernel⟩, ⟨by decide +kernel, by decide +kernel⟩, tk_L_octet, ⟨by decide +kernel, by decide +kernel, by decide +kernel⟩⟩
