/-! the whole library is named here, so that the rounds read it from the first part on -/
theorem wide_0 : FP.Core.Good FP.Core.b64 := FP.Core.good_b64
