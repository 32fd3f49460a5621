theorem sub_max {a b : Nat} (ha : a < 2 ^ 30) (hb : b < 2 ^ 30) : (if (0 : Int32) < nI a - nI b then nI a - nI b else 0) = nI (a - b) := by
  rcases Nat.lt_or_ge b a with q | q
  · rw [pk_sub (by omega), if_pos (show (0 : Int32) < nI (a - b) from nI_lt (a := 0) (by omega) (by omega))]
  · have : ¬ (0 : Int32) < nI a - nI b := by
      rcases Nat.lt_or_ge a b with q2 | q2
      · have h1 := pk_sneg hb q2
        exact fun h => by
          have := Int32.lt_trans h h1
          exact absurd this (by decide)
      · rw [show a = b by omega, pk_sub (Nat.le_refl _), Nat.sub_self]
        decide
    rw [if_neg this, Nat.sub_eq_zero_of_le q]
    rfl
theorem sub3 {a b : Nat} (ha : a < 2 ^ 20) (hb : b < 2 ^ 20) {α : Type} (k : Int32 → α) : (if 0 ≤ (3 : Int32) * (nI a - nI b) then k ((3 : Int32) * (nI a - nI b)) else k 0) = k (nI (3 * (a - b))) := by
  rcases Nat.lt_or_ge a b with q | q
  · have h1 : (nI a - nI b).toInt = (a : Int) - b := pk_sub_toInt (by omega) (by omega)
    have h3 : (3 : Int32).toInt = 3 := rfl
    have h2 : ((3 : Int32) * (nI a - nI b)).toInt = 3 * ((a : Int) - b) := by
      rw [Int32.toInt_mul, h1, h3]
      exact Int.bmod_eq_of_le (by omega) (by omega)
    have h4 : ¬ 0 ≤ (3 : Int32) * (nI a - nI b) := by
      intro h
      have h5 := Int32.le_iff_toInt_le.mp h
      rw [h2] at h5
      have h6 : (0 : Int32).toInt = 0 := rfl
      rw [h6] at h5
      omega
    rw [if_neg h4, Nat.sub_eq_zero_of_le (by omega)]
    rfl
  · have e : (3 : Int32) * (nI a - nI b) = nI (3 * (a - b)) := by rw [pk_sub q, show (3 : Int32) = nI 3 from rfl, pk_mul]
    rw [e, if_pos (nI_pos' (by omega))]
theorem sub3j {a b : Nat} (ha : a < 2 ^ 20) (hb : b < 2 ^ 20) {α : Type} (f : Int32 → α) : jn f (fun k => if 0 ≤ (3 : Int32) * (nI a - nI b) then k ((3 : Int32) * (nI a - nI b)) else k 0) = f (nI (3 * (a - b))) := sub3 ha hb f
section JOY
variable {S M : Pic} {dc gc : Nat}
theorem joyNow_loop (h : Rel S (M 0) dc gc) (w : Wf S dc) {day d : Nat} (hday : day < 29) (hd : d < dc) (k : Int32 → Option Int32) : ∀ (n i : Nat) (acc : Int32), i + n = 3 * day → f7_joyNow_L25 M (nI day) (nI d) n acc (nI i) k = k (f2_sameTasteBefore_L49 S (S 3 d) (nI (3 * day)) n acc (nI i) (fun x => x)) := by
  intro n
  induction n with
  | zero => intro i acc _; rfl
  | succ n ih =>
    intro i acc hi
    have hc := h.1
    have e1 : (3 : Int32) * nI day = nI (3 * day) := by rw [show (3 : Int32) = nI 3 from rfl, pk_mul]
    rw [f7_joyNow_L25, f2_sameTasteBefore_L49, e1, if_neg (nI_ge (by omega) (by omega)), if_neg (nI_ge (by omega) (by omega)), ck_cell (by omega), ck_cell (by omega), h.cell (by omega), f6_at_nI (by omega) (by omega)]
    simp only [bd]
    rcases h.plan w (show i < 84 by omega) with q | ⟨e, he1, he2, q⟩
    · rw [q, if_pos rfl, if_pos rfl, Int32.add_zero, nI_1]
      exact ih (i + 1) acc (by omega)
    · rw [q, if_neg (nI_ne_neg (by omega)), if_neg (nI_ne_neg (by omega)), show (2 : Int32) = nI 2 from rfl, h.of he1 (by omega), ob1_some, h.of hd (by omega), ob1_some, f6_at_nI he2 (by omega), nI_1]
      by_cases c : S 3 e = S 3 d
      · rw [if_pos c, if_pos c]
        exact ih (i + 1) _ (by omega)
      · rw [if_neg c, if_neg c, Int32.add_zero]
        exact ih (i + 1) _ (by omega)
theorem joyNow_eq (h : Rel S (M 0) dc gc) (w : Wf S dc) {day d : Nat} (hday : day < 29) (hd : d < dc) : f7_joyNow M (nI day) (nI d) = some (f2_joyOfDish S (nI day) (nI d)) := by
  have hc := h.1
  obtain ⟨m, hm, em⟩ := w.2.2
  have z1 : M 0 (ix (1 : Int32)) = nI m := (h.2.2.2.2.2.2.2.2.1 1 (by omega)).trans em
  have z0 : M 0 (ix (0 : Int32)) = S 10 0 := h.2.2.2.2.2.2.2.2.1 0 (by omega)
  have a1 : f6_at 3 (S 10) 1 = nI m := (f6_at_nI (n := 3) (j := 1) (f := S 10) (by omega) (by omega)).trans em
  have a0 : f6_at 3 (S 10) 0 = S 10 0 := f6_at_nI (n := 3) (j := 0) (f := S 10) (by omega) (by omega)
  have e1 : (3 : Int32) * nI day = nI (3 * day) := by rw [show (3 : Int32) = nI 3 from rfl, pk_mul]
  rw [f7_joyNow, f2_joyOfDish, f2_sameTasteBefore, z1, z0, a1, e1, sub_max (by omega) (by omega), show (0 : Int32) = nI 0 from rfl, f6_cellOf_nI, f6_cellOf_nI, ← show (0 : Int32) = nI 0 from rfl]
  simp only [bd, Nat.add_zero]
  rw [sub3j (by omega) (by omega), f6_at_nI (by omega) (by omega), fuelN_nI (by omega) (by omega), joyNow_loop h w hday hd _ _ _ _ (by omega), show (3 : Int32) = nI 3 from rfl, h.of hd (by omega), ob1_some, f2_joyLeft, a0, f6_at_nI (by omega) (by omega)]
  generalize S 4 d - S 10 0 * f2_sameTasteBefore_L49 S (S 3 d) (nI (3 * day)) (3 * day - 3 * (day - m)) 0 (nI (3 * (day - m))) (fun x => x) = v
  by_cases c : 0 < v
  · rw [if_pos c, if_pos (Int32.le_of_lt c)]
  · rw [if_neg c]
    by_cases c2 : 0 ≤ v
    · have : v = 0 := Int32.le_antisymm (Int32.not_lt.mp c) c2
      rw [if_pos c2, this]
    · rw [if_neg c2]
theorem joyOf_loop (h : Rel S (M 0) dc gc) (w : Wf S dc) {day : Nat} (hd : day < 28) : ∀ (n p : Nat) (acc : Int32), p + n = 3 → f7_joyOf_L4 M (nI day) n acc (nI p) (fun x => some x) = some (f2_joyOfMeal_L4 S (nI day) n acc (nI p) (fun x => x)) := by
  intro n
  induction n with
  | zero => intro p acc _; rfl
  | succ n ih =>
    intro p acc hp
    rw [f7_joyOf_L4, f2_joyOfMeal_L4, if_neg (gq3 (by omega)), if_neg (gq3 (by omega)), h.at hd (by omega), ob1_some, f6_cellOf_nI, f6_at_nI (by omega) (by omega)]
    simp only [bd]
    rcases h.plan w (show 3 * day + p < 84 by omega) with q | ⟨e, he1, he2, q⟩
    · rw [q, if_pos rfl, if_pos rfl, Int32.add_zero, nI_1]
      exact ih (p + 1) acc (by omega)
    · rw [q, if_neg (nI_ne_neg (by omega)), if_neg (nI_ne_neg (by omega)), ob1_some, joyNow_eq h w (by omega) he1, ob1_some, nI_1]
      exact ih (p + 1) _ (by omega)
theorem joyOf_eq (h : Rel S (M 0) dc gc) (w : Wf S dc) {day : Nat} (hd : day < 28) : f7_joyOf M (nI day) = some (f2_joyOfMeal S (nI day)) := by
  rw [f7_joyOf, f2_joyOfMeal]
  exact joyOf_loop h w hd 3 0 0 rfl
theorem joyOfAll_loop (h : Rel S (M 0) dc gc) (w : Wf S dc) : ∀ (n i : Nat) (acc : Int32), i + n = 28 → f7_joyOfAll_L4 M n acc (nI i) (fun x => some x) = some (f2_joyOfPlan_L4 S n acc (nI i) (fun x => x)) := by
  intro n
  induction n with
  | zero => intro i acc _; rfl
  | succ n ih =>
    intro i acc hi
    rw [f7_joyOfAll_L4, f2_joyOfPlan_L4, if_neg (gq28 (by omega)), if_neg (gq28 (by omega)), joyOf_eq h w (by omega), ob1_some]
    simp only [bd]
    rw [nI_1]
    exact ih (i + 1) _ (by omega)
theorem joyOfAll_eq (h : Rel S (M 0) dc gc) (w : Wf S dc) : f7_joyOfAll M = some (f2_joyOfPlan S) := by
  rw [f7_joyOfAll, f2_joyOfPlan]
  exact joyOfAll_loop h w 28 0 0 rfl
end JOY
