/-- a share, as the class and the model divide it -/
def shr (u a : Nat) : UInt64 := FP.ddiv (FP.i2d (nI u)) (FP.i2d (nI a))
def chkS (u a : Nat) : Bool := decide (shr u a &&& 0x7fffffffffffffff ≤ 0x7ff0000000000000) && decide (f6_bitsOfShare (shr u a) = some (fJxe99ae_doubleToLongBits_ccdee (shr u a)))
def allN (f : Nat → Bool) : Nat → Bool
  | 0 => true
  | n + 1 => allN f n && f n
theorem allN_of {f : Nat → Bool} : ∀ n : Nat, allN f n = true → ∀ k : Nat, k < n → f k = true := by
  intro n
  induction n with
  | zero => intro _ k hk; omega
  | succ n ih =>
    intro h k hk
    rw [allN, Bool.and_eq_true] at h
    by_cases y : k = n
    · rw [y]; exact h.2
    · exact ih h.1 k (by omega)
def chkA (a : Nat) : Bool := allN (fun u => chkS u a) (a + 1)
theorem chk_1 : chkA 1 = true := by decide +kernel
theorem chk_5 : chkA 5 = true := by decide +kernel
