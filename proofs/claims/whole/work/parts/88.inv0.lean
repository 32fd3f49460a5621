/-! the state at the law's start -/
theorem m7_lo {q : Nat} (h : q < 89) : ∀ n : Nat, m7 n q = m7 0 q := by
  intro n
  induction n with
  | zero => rfl
  | succ n ih =>
    show upd (m7 n) (89 + n) (-1 : Int32) q = m7 0 q
    rw [upd, if_neg (by omega)]
    exact ih
theorem m7_hi {c : Nat} : ∀ n : Nat, c < n → m7 n (89 + c) = -1 := by
  intro n
  induction n with
  | zero => intro h; omega
  | succ n ih =>
    intro h
    rw [m7, upd]
    by_cases q : 89 + c = 89 + n
    · rw [if_pos q]
    · rw [if_neg q]
      exact ih (by omega)
theorem S00_11 {c : Nat} (h : c < 84) : S00 11 c = -1 := by
  show fJ7_fill_53178 84 (fun _ => 0) (-1 : Int32) c = -1
  unfold fJ7_fill_53178
  rw [if_pos h]
theorem INV0 : INV S00 P00 (fun _ => S00) P00 P00 (M7 84) := by
  refine ⟨⟨0, 0, ⟨by omega, by omega, rfl, rfl, (m7_lo (by omega) 84).trans (by decide +kernel), (m7_lo (by omega) 84).trans (by decide +kernel), fun d k h => by omega, fun g h => by omega, fun k h => ?_, fun c h => (m7_hi 84 h).trans (S00_11 h).symm⟩, ⟨fun d h => by omega, fun c h => Or.inl (S00_11 h), 3, by omega, by decide +kernel⟩, fun e h => by omega, fun d h => by omega, fun d h => by omega, ⟨200, by omega, by decide +kernel⟩, by decide +kernel⟩, ?_, ?_, ?_⟩
  · rcases (show k = 0 ∨ k = 1 ∨ k = 2 by omega) with rfl | rfl | rfl
    · exact (m7_lo (by omega) 84).trans (by decide +kernel)
    · exact (m7_lo (by omega) 84).trans (by decide +kernel)
    · exact (m7_lo (by omega) 84).trans (by decide +kernel)
  · exact ⟨0, 0, by omega, by omega, rfl, rfl, rfl, fun r h => by omega⟩
  · exact fun k h => Or.inl ⟨rfl, rfl⟩
  · exact ⟨0, by omega, rfl, rfl, fun i h => by omega⟩
theorem dfl6 (j : Nat) (hj : j < 7) : defaultValue (tyX6 j) = vp_V [.null, .null, .null, .null, .null, .null, .null] j := by
  rcases (show j = 0 ∨ j = 1 ∨ j = 2 ∨ j = 3 ∨ j = 4 ∨ j = 5 ∨ j = 6 by omega) with rfl | rfl | rfl | rfl | rfl | rfl | rfl <;> rfl
theorem dfl7 (j : Nat) (hj : j < 15) : defaultValue (tyX7 j) = vp_V [.null, .int 0, .null, .null, .null, .int 0, .null, .int 0, .null, .null, .null, .int 0, .int 0, .int 0, .long 0] j := by
  rcases (show j = 0 ∨ j = 1 ∨ j = 2 ∨ j = 3 ∨ j = 4 ∨ j = 5 ∨ j = 6 ∨ j = 7 ∨ j = 8 ∨ j = 9 ∨ j = 10 ∨ j = 11 ∨ j = 12 ∨ j = 13 ∨ j = 14 by omega) with rfl | rfl | rfl | rfl | rfl | rfl | rfl | rfl | rfl | rfl | rfl | rfl | rfl | rfl | rfl <;> rfl
