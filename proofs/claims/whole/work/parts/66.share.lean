/-- a share, as the class and the model divide it -/
def shr (u a : Nat) : UInt64 := FP.ddiv (FP.i2d (nI u)) (FP.i2d (nI a))
def chkS (u a : Nat) : Bool := decide (shr u a &&& 0x7fffffffffffffff ≤ 0x7ff0000000000000) && decide (f6_bitsOfShare (shr u a) = some (fJxe99ae_doubleToLongBits_ccdee (shr u a)))
def allN (f : Nat → Bool) : Nat → Bool
  | 0 => true
  | n + 1 => allN f n && f n
theorem allN_of {f : Nat → Bool} : ∀ n : Nat, allN f n = true → ∀ k : Nat, k < n → f k = true := by
  intro n
  induction n with
  | zero => intro _ k hk; omega
  | succ n ih =>
    intro h k hk
    rw [allN, Bool.and_eq_true] at h
    by_cases y : k = n
    · rw [y]; exact h.2
    · exact ih h.1 k (by omega)
def chkA (a : Nat) : Bool := allN (fun u => chkS u a) (a + 1)
def chkR (lo n : Nat) : Bool := allN (fun i => chkA (lo + i)) n
theorem chk_a : chkR 1 14 = true := by decide +kernel
theorem chk_b : chkR 15 14 = true := by decide +kernel
theorem chk_c : chkR 29 14 = true := by decide +kernel
theorem chk_d : chkR 43 14 = true := by decide +kernel
theorem chk_e : chkR 57 14 = true := by decide +kernel
theorem chk_f : chkR 71 14 = true := by decide +kernel
theorem chk_in {lo n a : Nat} (h : chkR lo n = true) (h1 : lo ≤ a) (h2 : a < lo + n) : chkA a = true := by
  have := allN_of n h (a - lo) (by omega)
  rw [show lo + (a - lo) = a by omega] at this
  exact this
theorem chkA_all {a : Nat} (h1 : 1 ≤ a) (h2 : a ≤ 84) : chkA a = true := by
  rcases Nat.lt_or_ge a 15 with q | q
  · exact chk_in chk_a h1 q
  rcases Nat.lt_or_ge a 29 with q | q
  · exact chk_in chk_b (by omega) q
  rcases Nat.lt_or_ge a 43 with q | q
  · exact chk_in chk_c (by omega) q
  rcases Nat.lt_or_ge a 57 with q | q
  · exact chk_in chk_d (by omega) q
  rcases Nat.lt_or_ge a 71 with q | q
  · exact chk_in chk_e (by omega) q
  · exact chk_in chk_f (by omega) (by omega)
theorem share_ok {u a : Nat} (h0 : 1 ≤ a) (ha : a ≤ 84) (hu : u ≤ a) : (shr u a &&& 0x7fffffffffffffff ≤ 0x7ff0000000000000) ∧ f6_bitsOfShare (shr u a) = some (fJxe99ae_doubleToLongBits_ccdee (shr u a)) := by
  have := allN_of (a + 1) (chkA_all h0 ha) u (by omega)
  have h2 : chkS u a = true := this
  unfold chkS at h2
  rw [Bool.and_eq_true] at h2
  exact ⟨of_decide_eq_true h2.1, of_decide_eq_true h2.2⟩
theorem share_one : f6_bitsOfShare FP.dconst1 = some (fJxe99ae_doubleToLongBits_ccdee FP.dconst1) := by decide +kernel
