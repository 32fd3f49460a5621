section VET
variable {S M : Pic} {dc gc : Nat}
theorem vetoed_loop (h : Rel S (M 0) dc gc) {day : Int32} : ∀ (n i : Nat) (acc : Int32), gc ≤ i + n → i ≤ gc → f7_vetoed_L4 M day n acc (nI i) (fun x => some x) = some (f5_vetoedTastes_L4 S day n acc (nI i) (fun x => x)) := by
  intro n
  induction n with
  | zero => intro i acc _ _; rfl
  | succ n ih =>
    intro i acc hi hi2
    have hg := h.2.1
    have e4 : M 0 (ix (4 : Int32)) = nI gc := h.2.2.2.2.2.1
    rw [f7_vetoed_L4, f5_vetoedTastes_L4, e4, h.2.2.2.1]
    rcases Nat.lt_or_ge i gc with q | q
    · have h8 := h.2.2.2.2.2.2.2.1 i q
      rw [if_neg (nI_ge q (by omega)), if_neg (nI_ge q (by omega)), show (0 : Int32) = nI 0 from rfl, show (1 : Int32) = nI 1 from rfl, f7_ofGuest_nI (by omega), f7_ofGuest_nI (by omega), ob1_some]
      simp only [bd, ob1_some]
      have e : f5_comesOn S (nI i) day = f7_has (M 0 (77 + 2 * i + 0)) (day - day / 7 * 7) := by
        rw [show 77 + 2 * i + 0 = 77 + 2 * i from rfl, h8.1, ← f6_at_nI (n := 6) (f := S 8) (by omega) (by omega)]
        rfl
      rw [e]
      by_cases c : f7_has (M 0 (77 + 2 * i + 0)) (day - day / 7 * 7) = nI 0
      · rw [if_pos c, if_pos c, nI_add]
        have : acc ||| nI 0 = acc := Int32.or_zero
        rw [this]
        exact ih (i + 1) acc (by omega) (by omega)
      · rw [if_neg c, if_neg c, nI_add, h8.2, f6_at_nI (by omega) (by omega)]
        exact ih (i + 1) _ (by omega) (by omega)
    · rw [if_pos (nI_le q (by omega)), if_pos (nI_le q (by omega))]
theorem vetoed_eq (h : Rel S (M 0) dc gc) (day : Int32) : f7_vetoed M day = some (f5_vetoedTastes S day) := by
  have hg := h.2.1
  have e4 : M 0 (ix (4 : Int32)) = nI gc := h.2.2.2.2.2.1
  have f1 : fuelN (0 : Int32) (nI gc) = gc := by rw [← nI_0, fuelN_nI (by omega) (by omega)]; rfl
  rw [f7_vetoed, f5_vetoedTastes, e4, h.2.2.2.1, f1]
  exact vetoed_loop h gc 0 0 (by omega) (by omega)
theorem isVetoed_eq (h : Rel S (M 0) dc gc) (day : Int32) {d : Nat} (hd : d < dc) : f7_isVetoed M day (nI d) = some (f5_isVetoed S day (nI d)) := by
  have hc := h.1
  rw [f7_isVetoed, vetoed_eq h, ob1_some, show (2 : Int32) = nI 2 from rfl, h.of hd (by omega), ob1_some, f5_isVetoed]
  simp only [bd]
  rw [f6_at_nI (by omega) (by omega)]
  rfl
theorem someVetoed_one : ∀ (n i : Nat), i + n = 84 → f7_someVetoed_L4 M n 1 (nI i) (fun x => some x) = some 1 := by
  intro n
  induction n with
  | zero => intro i _; rfl
  | succ n ih =>
    intro i hi
    rw [f7_someVetoed_L4, if_neg (gq84 (by omega)), if_neg (by decide), nI_1]
    exact ih (i + 1) (by omega)
theorem someVetoed_loop (h : Rel S (M 0) dc gc) (w : Wf S dc) : ∀ (n i : Nat), i + n = 84 → f7_someVetoed_L4 M n 0 (nI i) (fun x => some x) = some (f5_hasVetoedDish_L2 S n (nI i) 0) := by
  intro n
  induction n with
  | zero => intro i _; rfl
  | succ n ih =>
    intro i hi
    rw [f7_someVetoed_L4, f5_hasVetoedDish_L2, if_neg (gq84 (by omega)), if_neg (gq84 (by omega)), if_pos rfl, ck_cell (by omega), ck_cell (by omega), h.cell (by omega), f6_at_nI (by omega) (by omega)]
    simp only [bd]
    rcases h.plan w (show i < 84 by omega) with q | ⟨d, hd1, hd2, q⟩
    · rw [q, if_pos rfl, if_pos rfl, nI_1]
      exact ih (i + 1) (by omega)
    · rw [q, if_neg (nI_ne_neg (by omega)), if_neg (nI_ne_neg (by omega)), isVetoed_eq h _ hd1, ob1_some]
      by_cases c : f5_isVetoed S (nI i / 3) (nI d) = 0
      · rw [if_pos c, if_pos c, nI_1]
        exact ih (i + 1) (by omega)
      · rw [if_neg c, if_neg c, nI_1]
        exact someVetoed_one n (i + 1) (by omega)
theorem someVetoed_eq (h : Rel S (M 0) dc gc) (w : Wf S dc) : f7_someVetoed M = some (f5_hasVetoedDish S) := by
  rw [f7_someVetoed, f5_hasVetoedDish]
  exact someVetoed_loop h w 84 0 rfl
end VET
