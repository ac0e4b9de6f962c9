/-! QUOTIENTS THAT ARE NUMBERS, counted by the kernel (by wip/whole/x51.py) -/
def cvX (n : Nat) : UInt32 := FP.fdiv (FP.i2f (nI n)) 1132462080
def cvB (n : Nat) : Bool := decide (cvX n &&& 0x7fffffff ≤ 0x7f800000) && decide (FP.f2d (cvX n) &&& 0x7fffffffffffffff ≤ 0x7ff0000000000000) && decide (Op.cmpValue (FP.dcmp (FP.f2d (cvX n)) (FP.f2d (cvX n))) .l = 0)
theorem cvB_all : ∀ n, n < 257 → cvB n = true := by decide +kernel
def mpX (a b : Nat) : UInt64 := FP.ddiv (FP.i2d (nI a)) (FP.i2d (nI b))
def mpB (a b : Nat) : Bool := decide (mpX a b &&& 0x7fffffffffffffff ≤ 0x7ff0000000000000) && decide (Op.cmpValue (FP.dcmp (mpX a b) (mpX a b)) .l = 0)
