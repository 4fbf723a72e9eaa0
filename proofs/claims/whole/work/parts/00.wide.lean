/-! the library's laws of doubles are used below -/
theorem w0_good : FP.Core.Good FP.Core.b64 := FP.Core.good_b64
