/-! a name of the whole library, first of all: so that the first round is read over the whole of it (not twice) -/
theorem wide0 : FP.Core.b32.tails = 2 ^ 23 := FP.Core.tails_b32
