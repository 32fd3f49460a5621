theorem bit01 (x : Int32) : x &&& 1 = 0 ∨ x &&& 1 = 1 := by
  have h := pk_and x (m := 1) 1 (by decide)
  rw [h]
  rcases Nat.mod_two_eq_zero_or_one x.toBitVec.toNat with q | q
  · left; rw [show (2 : Nat) ^ 1 = 2 from rfl, q]; rfl
  · right; rw [show (2 : Nat) ^ 1 = 2 from rfl, q]; rfl
section CNT
variable {S M : Pic} {dc gc : Nat}
theorem dishesInPlan_loop (h : Rel S (M 0) dc gc) : ∀ (n i : Nat) (a b : Int32), i + n = 84 → a + b = nI i → ∃ r r', f7_dishesInPlan_L4 M n a (nI i) (fun x => some x) = some r ∧ f5_timesPlanned_L4 S (-1) n b (nI i) (fun x => x) = r' ∧ r + r' = nI 84 := by
  intro n
  induction n with
  | zero => intro i a b hi hab; exact ⟨a, b, rfl, rfl, by rw [hab, show i = 84 by omega]⟩
  | succ n ih =>
    intro i a b hi hab
    rw [f7_dishesInPlan_L4, f5_timesPlanned_L4, if_neg (gq84 (by omega)), if_neg (gq84 (by omega)), ck_cell (by omega), h.cell (by omega), f6_at_nI (by omega) (by omega), nI_1]
    simp only [bd]
    by_cases c : S 11 i = -1
    · rw [if_pos c, if_pos c, Int32.add_zero]
      exact ih (i + 1) a (b + 1) (by omega) (by rw [← Int32.add_assoc, hab, nI_1])
    · rw [if_neg c, if_neg c]
      exact ih (i + 1) (a + 1) b (by omega) (by rw [Int32.add_assoc, Int32.add_comm 1 b, ← Int32.add_assoc, hab, nI_1])
theorem dishesInPlan_eq (h : Rel S (M 0) dc gc) : f7_dishesInPlan M = some (f5_planCount S) := by
  obtain ⟨r, r', h1, h2, h3⟩ := dishesInPlan_loop h 84 0 0 0 rfl rfl
  have e1 : f7_dishesInPlan M = some r := h1
  have e2 : f5_timesPlanned S (-1) = r' := h2
  rw [e1, f5_planCount, e2]
  simp only [bd]
  rw [show (84 : Int32) = nI 84 from rfl, ← h3, Int32.add_sub_cancel]
theorem dishesOf_eq (h : Rel S (M 0) dc gc) {day : Nat} (hd : day < 28) : f7_dishesOf M (nI day) = some (f5_mealCount S (nI day)) := by
  have e : ∀ p : Nat, p < 3 → f6_at 84 (S 11) (f6_cellOf (nI day) (nI p)) = S 11 (3 * day + p) := fun p hp => by rw [f6_cellOf_nI, f6_at_nI (by omega) (by omega)]
  rw [f7_dishesOf, show (0 : Int32) = nI 0 from rfl, show (1 : Int32) = nI 1 from rfl, show (2 : Int32) = nI 2 from rfl, h.at hd (by omega), h.at hd (by omega), h.at hd (by omega), ob1_some, ob1_some, ob1_some, f5_mealCount]
  congr 1
  have u : ∀ (n p : Nat) (a : Int32), p + (n + 1) = 3 → f5_mealCount_L4 S (nI day) (n + 1) a (nI p) (fun x => x) = f5_mealCount_L4 S (nI day) n (a + f7_many (S 11 (3 * day + p))) (nI (p + 1)) (fun x => x) := by
    intro n p a hp
    rw [f5_mealCount_L4, if_neg (gq3 (by omega)), e p (by omega), nI_1, f7_many]
    by_cases c : S 11 (3 * day + p) = -1
    · rw [if_pos c, if_pos c, Int32.add_zero]
    · rw [if_neg c, if_neg c]
  rw [show (0 : Int32) = nI 0 from rfl, u 2 0 (nI 0) rfl, u 1 1 _ rfl, u 0 2 _ rfl, f5_mealCount_L4, nI_0, Int32.zero_add]
theorem guestsOn_loop (h : Rel S (M 0) dc gc) {day : Int32} : ∀ (n i : Nat) (acc : Int32), gc ≤ i + n → i ≤ gc → f7_guestsOn_L4 M day n acc (nI i) (fun x => some x) = some (f5_guestsOn_L4 S day n acc (nI i) (fun x => x)) := by
  intro n
  induction n with
  | zero => intro i acc _ _; rfl
  | succ n ih =>
    intro i acc hi hi2
    have hg := h.2.1
    have e4 : M 0 (ix (4 : Int32)) = nI gc := h.2.2.2.2.2.1
    rw [f7_guestsOn_L4, f5_guestsOn_L4, e4, h.2.2.2.1]
    rcases Nat.lt_or_ge i gc with q | q
    · have h8 := h.2.2.2.2.2.2.2.1 i q
      have e : f5_comesOn S (nI i) day = f7_has (S 8 i) (day - day / 7 * 7) := by
        rw [← f6_at_nI (n := 6) (f := S 8) (by omega) (by omega)]
        rfl
      have g0 : f7_ofGuest M (nI i) 0 = some (S 8 i) := by rw [← h8.1]; exact f7_ofGuest_nI (k := 0) (by omega)
      rw [if_neg (nI_ge q (by omega)), if_neg (nI_ge q (by omega)), g0, ob1_some, e, f7_has]
      simp only [bd]
      rw [nI_1]
      rcases bit01 (S 8 i >>> ((day - day / 7 * 7) &&& 31)) with c | c
      · rw [c, if_pos (show (if (0 : Int32) = 1 then (1 : Int32) else 0) = 0 by decide), Int32.add_zero]
        exact ih (i + 1) acc (by omega) (by omega)
      · rw [c, if_neg (show ¬ (if (1 : Int32) = 1 then (1 : Int32) else 0) = 0 by decide)]
        exact ih (i + 1) _ (by omega) (by omega)
    · rw [if_pos (nI_le q (by omega)), if_pos (nI_le q (by omega))]
theorem guestsOn_eq (h : Rel S (M 0) dc gc) (day : Int32) : f7_guestsOn M day = some (f5_guestsOn S day) := by
  have hg := h.2.1
  have e4 : M 0 (ix (4 : Int32)) = nI gc := h.2.2.2.2.2.1
  have f1 : fuelN (0 : Int32) (nI gc) = gc := by rw [← nI_0, fuelN_nI (by omega) (by omega)]; rfl
  rw [f7_guestsOn, f5_guestsOn, e4, h.2.2.2.1, f1]
  exact guestsOn_loop h gc 0 0 (by omega) (by omega)
theorem guestNow_loop (h : Rel S (M 0) dc gc) {g : Nat} (hg : g < gc) : ∀ (n i : Nat) (acc : Int32), i + n = 28 → f7_guestNow_L17 M (nI g) n acc (nI i) (fun x => some x) = some (f5_dishesBefore_L4 S (nI g) n acc (nI i) (fun x => x)) := by
  intro n
  induction n with
  | zero => intro i acc _; rfl
  | succ n ih =>
    intro i acc hi
    have hgc := h.2.1
    have h8 := h.2.2.2.2.2.2.2.1 g hg
    have g0 : f7_ofGuest M (nI g) 0 = some (S 8 g) := by rw [← h8.1]; exact f7_ofGuest_nI (k := 0) (by omega)
    have e : f5_comesOn S (nI g) (nI i) = f7_has (S 8 g) (nI i - nI i / 7 * 7) := by
      rw [← f6_at_nI (n := 6) (f := S 8) (by omega) (by omega)]
      rfl
    rw [f7_guestNow_L17, f5_dishesBefore_L4, if_neg (gq28 (by omega)), if_neg (gq28 (by omega)), g0, ob1_some, e, dishesOf_eq h (by omega), nI_1]
    simp only [bd, ob1_some]
    by_cases c : f7_has (S 8 g) (nI i - nI i / 7 * 7) = 0
    · rw [if_pos c, if_pos c, Int32.add_zero]
      exact ih (i + 1) acc (by omega)
    · rw [if_neg c, if_neg c]
      exact ih (i + 1) _ (by omega)
theorem wholeDays_loop (h : Rel S (M 0) dc gc) : ∀ (n i : Nat) (acc : Int32), i + n = 28 → f7_wholeDays_L4 M n acc (nI i) (fun x => some x) = some (f5_wholeMeals_L4 S n acc (nI i) (fun x => x)) := by
  intro n
  induction n with
  | zero => intro i acc _; rfl
  | succ n ih =>
    intro i acc hi
    rw [f7_wholeDays_L4, f5_wholeMeals_L4, if_neg (gq28 (by omega)), if_neg (gq28 (by omega)), dishesOf_eq h (by omega), ob1_some, nI_1]
    simp only [bd]
    by_cases c : f5_mealCount S (nI i) = 3
    · rw [if_pos c, if_pos c]
      exact ih (i + 1) _ (by omega)
    · rw [if_neg c, if_neg c, Int32.add_zero]
      exact ih (i + 1) acc (by omega)
theorem wholeDays_eq (h : Rel S (M 0) dc gc) : f7_wholeDays M = some (f5_wholeMeals S) := wholeDays_loop h 28 0 0 rfl
theorem costOfAll_eq (h : Rel S (M 0) dc gc) (w : Wf S dc) : f7_costOfAll M = some (f5_planCost S) := by
  have u : ∀ (n p : Nat) (a : Int32), p + (n + 1) = 4 → f5_planCost_L4 S (n + 1) a (nI p) (fun x => x) = f5_planCost_L4 S n (a + f5_weekCost S (nI p)) (nI (p + 1)) (fun x => x) := by
    intro n p a hp
    rw [f5_planCost_L4, if_neg (gq4 (by omega)), nI_1]
    rfl
  rw [f7_costOfAll, f5_planCost, show (0 : Int32) = nI 0 from rfl, show (1 : Int32) = nI 1 from rfl, show (2 : Int32) = nI 2 from rfl, show (3 : Int32) = nI 3 from rfl, weekCost_eq h w (by omega), weekCost_eq h w (by omega), weekCost_eq h w (by omega), weekCost_eq h w (by omega)]
  simp only [ob1_some]
  rw [u 3 0 _ rfl, u 2 1 _ rfl, u 1 2 _ rfl, u 0 3 _ rfl, f5_planCost_L4, show nI 0 + f5_weekCost S (nI 0) = f5_weekCost S (nI 0) from Int32.zero_add _]
end CNT
