/-! ===== a name of the whole library, ahead of all: every round is then read over the whole of it from the first part on ===== -/
theorem z_wide {a b : UInt64} (h : FP.Core.val64 a ≠ .nan) (he : FP.Core.val64 a = FP.Core.val64 b) : a = b := FP.Core.val64_inj h he
