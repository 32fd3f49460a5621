/-! the two sides in one form: numbers by nI -/
theorem f6_at_nI {n j : Nat} {f : Nat → Int32} (hj : j < n) (hn : n < 2 ^ 31) : f6_at n f (nI j) = f j := by
  unfold f6_at
  rw [if_neg (nI_pos (by omega)), if_neg (nI_ge hj hn)]
  show f (nI j).toNatClampNeg = _
  rw [nI_clamp (by omega)]
theorem f6_at_neg {n : Nat} {f : Nat → Int32} : f6_at n f (-1) = -1 := by
  unfold f6_at
  rw [if_pos (by decide)]
theorem f6_put_nI {n j : Nat} {f : Nat → Int32} {v : Int32} (hj : j < n) (hn : n < 2 ^ 31) : f6_put n f (nI j) v = upd f j v := by
  unfold f6_put
  rw [if_neg (nI_pos (by omega)), if_neg (nI_ge hj hn)]
  show upd f (nI j).toNatClampNeg v = _
  rw [nI_clamp (by omega)]
theorem f6_cellOf_nI (a b : Nat) : f6_cellOf (nI a) (nI b) = nI (3 * a + b) := by
  unfold f6_cellOf
  rw [show (3 : Int32) = nI 3 from rfl, pk_mul, nI_add, Nat.mul_comm]
theorem ck_nI {α : Type} {j n : Nat} {t : Option α} (h : j < n) (hn : n < 2 ^ 31) : ck (nI j) n t = t := by
  unfold ck
  rw [if_neg (nI_in h hn)]
theorem ob1_some {α β : Type} {a : α} {f : α → Option β} : ob1 (some a) f = f a := rfl
theorem ob2_some {α β γ : Type} {a : α} {b : β} {f : α → β → Option γ} : ob2 (some (a, b)) f = f a b := rfl
theorem ix_nI {j : Nat} (h : j < 2 ^ 31) : ix (nI j) = j := nI_clamp h
theorem nI_ne_neg {j : Nat} (h : j < 2 ^ 31) : ¬ nI j = -1 := by
  intro q
  have h1 := congrArg Int32.toInt q
  rw [nI_toInt h] at h1
  have h2 : (-1 : Int32).toInt = -1 := by decide
  rw [h2] at h1
  omega
theorem f7_of_nI {M : Pic} {d k : Nat} (h : 5 + 6 * d + k < 173) : f7_of M (nI d) (nI k) = some (M 0 (5 + 6 * d + k)) := by
  unfold f7_of
  rw [show (5 : Int32) = nI 5 from rfl, show (6 : Int32) = nI 6 from rfl, pk_mul, nI_add, nI_add, ck_nI h (by omega), ix_nI (by omega)]
theorem f7_ofGuest_nI {M : Pic} {g k : Nat} (h : 77 + 2 * g + k < 173) : f7_ofGuest M (nI g) (nI k) = some (M 0 (77 + 2 * g + k)) := by
  unfold f7_ofGuest
  rw [show (77 : Int32) = nI 77 from rfl, show (2 : Int32) = nI 2 from rfl, pk_mul, nI_add, nI_add, ck_nI h (by omega), ix_nI (by omega)]
theorem f7_at_nI {M : Pic} {d p : Nat} (h : 89 + 3 * d + p < 173) : f7_at M (nI d) (nI p) = some (M 0 (89 + (3 * d + p))) := by
  unfold f7_at
  rw [show (89 : Int32) = nI 89 from rfl, show (3 : Int32) = nI 3 from rfl, pk_mul, nI_add, nI_add, ck_nI h (by omega), ix_nI (by omega), Nat.add_assoc]
theorem gq_ge {k p : Nat} (h : p < k) (hk : k < 2 ^ 31) : ¬ nI k ≤ nI p := nI_ge h hk
theorem gq3 {p : Nat} (h : p < 3) : ¬ (3 : Int32) ≤ nI p := nI_ge (b := 3) h (by omega)
theorem gq4 {p : Nat} (h : p < 4) : ¬ (4 : Int32) ≤ nI p := nI_ge (b := 4) h (by omega)
theorem gq28 {p : Nat} (h : p < 28) : ¬ (28 : Int32) ≤ nI p := nI_ge (b := 28) h (by omega)
theorem gq84 {p : Nat} (h : p < 84) : ¬ (84 : Int32) ≤ nI p := nI_ge (b := 84) h (by omega)
/-- the class's state and the model's row tell the same -/
def Rel (S : Pic) (z : Nat → Int32) (dc gc : Nat) : Prop :=
  dc ≤ 12 ∧ gc ≤ 6 ∧ S 0 0 = nI dc ∧ S 7 0 = nI gc ∧ z 3 = nI dc ∧ z 4 = nI gc ∧ (∀ d k : Nat, d < dc → k < 6 → z (5 + 6 * d + k) = S (1 + k) d) ∧ (∀ g : Nat, g < gc → z (77 + 2 * g) = S 8 g ∧ z (77 + 2 * g + 1) = S 9 g) ∧ (∀ k : Nat, k < 3 → z k = S 10 k) ∧ ∀ c : Nat, c < 84 → z (89 + c) = S 11 c
/-- what holds of every state that comes up -/
def Wf (S : Pic) (dc : Nat) : Prop :=
  (∀ d : Nat, d < dc → (∃ p : Nat, p < 3 ∧ S 1 d = nI p) ∧ (S 5 d = -1 ∨ ∃ e : Nat, e < dc ∧ S 5 d = nI e) ∧ ∃ w : Nat, w ≤ 6 ∧ S 6 d = nI w) ∧ (∀ c : Nat, c < 84 → S 11 c = -1 ∨ ∃ d : Nat, d < dc ∧ S 11 c = nI d ∧ S 1 d = nI (c % 3)) ∧ ∃ m : Nat, m ≤ 10 ∧ S 10 1 = nI m
section REL
variable {S M : Pic} {dc gc : Nat}
theorem Rel.of (h : Rel S (M 0) dc gc) {d k : Nat} (hd : d < dc) (hk : k < 6) : f7_of M (nI d) (nI k) = some (S (1 + k) d) := by
  obtain ⟨h1, h2, h3, h4, h5, h6, h7, h8⟩ := h
  rw [f7_of_nI (by omega), h7 d k hd hk]
theorem Rel.at (h : Rel S (M 0) dc gc) {d p : Nat} (hd : d < 28) (hp : p < 3) : f7_at M (nI d) (nI p) = some (S 11 (3 * d + p)) := by
  rw [f7_at_nI (by omega), h.2.2.2.2.2.2.2.2.2 _ (by omega)]
theorem Rel.cell (h : Rel S (M 0) dc gc) {c : Nat} (hc : c < 84) : M 0 (ix ((89 : Int32) + nI c)) = S 11 c := by
  rw [show (89 : Int32) = nI 89 from rfl, nI_add, ix_nI (by omega), h.2.2.2.2.2.2.2.2.2 _ hc]
theorem ck_cell {α : Type} {c : Nat} {t : Option α} (hc : c < 84) : ck ((89 : Int32) + nI c) 173 t = t := by
  rw [show (89 : Int32) = nI 89 from rfl, nI_add, ck_nI (by omega) (by omega)]
theorem Rel.plan (h : Rel S (M 0) dc gc) (w : Wf S dc) {c : Nat} (hc : c < 84) : S 11 c = -1 ∨ ∃ d : Nat, d < dc ∧ d < 12 ∧ S 11 c = nI d := by
  rcases w.2.1 c hc with q | ⟨d, h1, h2, -⟩
  · exact Or.inl q
  · exact Or.inr ⟨d, h1, Nat.lt_of_lt_of_le h1 h.1, h2⟩
/-- costs -/
theorem costOf_loop (h : Rel S (M 0) dc gc) (w : Wf S dc) {day : Nat} (hd : day < 28) : ∀ (n p : Nat) (acc : Int32), p + n = 3 → f7_costOf_L4 M (nI day) n acc (nI p) (fun x => some x) = some (f5_mealCost_L4 S (nI day) n acc (nI p) (fun x => x)) := by
  intro n
  induction n with
  | zero => intro p acc _; rfl
  | succ n ih =>
    intro p acc hp
    rw [f7_costOf_L4, f5_mealCost_L4, if_neg (gq3 (by omega)), if_neg (gq3 (by omega)), h.at hd (by omega), ob1_some, f6_cellOf_nI, f6_at_nI (by omega) (by omega)]
    simp only [bd]
    rcases h.plan w (show 3 * day + p < 84 by omega) with q | ⟨d, hd1, hd2, q⟩
    · rw [q, if_pos rfl, if_pos rfl, Int32.add_zero, nI_1, ih (p + 1) acc (by omega)]
    · rw [q, if_neg (nI_ne_neg (by omega)), if_neg (nI_ne_neg (by omega)), ob1_some, show (1 : Int32) = nI 1 from rfl, h.of hd1 (by omega), ob1_some, f6_at_nI hd2 (by omega), nI_add, ih (p + 1) _ (by omega)]
theorem costOf_eq (h : Rel S (M 0) dc gc) (w : Wf S dc) {day : Nat} (hd : day < 28) : f7_costOf M (nI day) = some (f5_mealCost S (nI day)) := by
  rw [f7_costOf, f5_mealCost]
  exact costOf_loop h w hd 3 0 0 rfl
end REL
section REL2
variable {S M : Pic} {dc gc : Nat}
theorem weekCost_loop (h : Rel S (M 0) dc gc) (w : Wf S dc) {wk : Nat} (hw : wk < 4) : ∀ (n i : Nat) (acc : Int32), i + n = 7 → f7_weekCost_L7 M (nI wk) n acc (nI (7 * wk + i)) (fun x => some x) = some (f5_weekCost_L10 S (nI (7 * wk)) n acc (nI (7 * wk + i)) (fun x => x)) := by
  intro n
  induction n with
  | zero => intro i acc _; rfl
  | succ n ih =>
    intro i acc hi
    have e1 : ((7 : Int32) * nI wk) + (7 : Int32) = nI (7 * wk + 7) := by rw [show (7 : Int32) = nI 7 from rfl, pk_mul, nI_add]
    have e2 : nI (7 * wk) + (7 : Int32) = nI (7 * wk + 7) := by rw [show (7 : Int32) = nI 7 from rfl, nI_add]
    rw [f7_weekCost_L7, f5_weekCost_L10, e1, e2, if_neg (nI_ge (by omega) (by omega)), if_neg (nI_ge (by omega) (by omega)), costOf_eq h w (by omega), ob1_some]
    simp only [bd]
    rw [nI_1, Nat.add_assoc]
    exact ih (i + 1) _ (by omega)
theorem weekCost_eq (h : Rel S (M 0) dc gc) (w : Wf S dc) {wk : Nat} (hw : wk < 4) : f7_weekCost M (nI wk) = some (f5_weekCost S (nI wk)) := by
  have e1 : ((7 : Int32) * nI wk) + (7 : Int32) = nI (7 * wk + 7) := by rw [show (7 : Int32) = nI 7 from rfl, pk_mul, nI_add]
  have e2 : nI (7 * wk) + (7 : Int32) = nI (7 * wk + 7) := by rw [show (7 : Int32) = nI 7 from rfl, nI_add]
  have e3 : (7 : Int32) * nI wk = nI (7 * wk) := by rw [show (7 : Int32) = nI 7 from rfl, pk_mul]
  have e4 : nI wk * (7 : Int32) = nI (7 * wk) := by rw [show (7 : Int32) = nI 7 from rfl, pk_mul, Nat.mul_comm]
  have f1 : fuelN (nI (7 * wk)) (nI (7 * wk + 7)) = 7 := by rw [fuelN_nI (by omega) (by omega)]; omega
  rw [f7_weekCost, f5_weekCost]
  simp only [bd]
  rw [e1, e3, e4, e2, f1]
  exact weekCost_loop h w hw 7 0 0 rfl
theorem isDear_one {b : Int32} : ∀ (n i : Nat), i + n = 4 → f7_isDear_L4 M b n 1 (nI i) (fun x => some x) = some 1 := by
  intro n
  induction n with
  | zero => intro i _; rfl
  | succ n ih =>
    intro i hi
    rw [f7_isDear_L4, if_neg (gq4 (by omega)), if_neg (by decide), nI_1]
    exact ih (i + 1) (by omega)
theorem isDear_loop (h : Rel S (M 0) dc gc) (w : Wf S dc) : ∀ (n i : Nat), i + n = 4 → f7_isDear_L4 M (f6_at 3 (S 10) 2) n 0 (nI i) (fun x => some x) = some (f5_isAboveBudget_L2 S n (nI i) 0) := by
  intro n
  induction n with
  | zero => intro i _; rfl
  | succ n ih =>
    intro i hi
    rw [f7_isDear_L4, f5_isAboveBudget_L2, if_neg (gq4 (by omega)), if_neg (gq4 (by omega)), if_pos rfl, weekCost_eq h w (by omega), ob1_some]
    simp only [bd]
    by_cases c : f5_weekCost S (nI i) ≤ f6_at 3 (S 10) 2
    · rw [if_pos c, if_pos c, nI_1]
      exact ih (i + 1) (by omega)
    · rw [if_neg c, if_neg c, nI_1]
      exact isDear_one n (i + 1) (by omega)
theorem isDear_eq (h : Rel S (M 0) dc gc) (w : Wf S dc) : f7_isDear M (f6_at 3 (S 10) 2) = some (f5_isAboveBudget S) := by
  rw [f7_isDear, f5_isAboveBudget]
  exact isDear_loop h w 4 0 rfl
/-- is a dish a leftover -/
theorem isLeftover_one {p : Int32} (h : Rel S (M 0) dc gc) : ∀ (n i : Nat), dc ≤ i + n → f7_isLeftover_L4 M p n 1 (nI i) (fun x => some x) = some 1 := by
  intro n
  induction n with
  | zero => intro i _; rfl
  | succ n ih =>
    intro i hi
    have e3 : M 0 (ix (3 : Int32)) = nI dc := h.2.2.2.2.1
    rw [f7_isLeftover_L4, e3]
    by_cases c : nI dc ≤ nI i
    · rw [if_pos c]
    · rw [if_neg c, if_neg (by decide), nI_1]
      exact ih (i + 1) (by omega)
theorem isLeftover_loop {p : Int32} (h : Rel S (M 0) dc gc) : ∀ (n i : Nat), dc ≤ i + n → i ≤ dc → f7_isLeftover_L4 M p n 0 (nI i) (fun x => some x) = some (f5_isLeftover_L2 S p n (nI i) 0) := by
  intro n
  induction n with
  | zero => intro i _ _; rfl
  | succ n ih =>
    intro i hi hi2
    have hd := h.1
    have e3 : M 0 (ix (3 : Int32)) = nI dc := h.2.2.2.2.1
    rw [f7_isLeftover_L4, f5_isLeftover_L2, e3, h.2.2.1]
    rcases Nat.lt_or_ge i dc with q | q
    · have hof := h.of (d := i) (k := 4) q (by omega)
      rw [if_neg (nI_ge q (by omega)), if_neg (nI_ge q (by omega)), if_pos rfl, show (4 : Int32) = nI 4 from rfl, hof, ob1_some, f6_at_nI (by omega) (by omega)]
      by_cases c : S 5 i = p
      · rw [if_pos c, if_pos c, nI_1]
        exact isLeftover_one h n (i + 1) (by omega)
      · rw [if_neg c, if_neg c, nI_1]
        exact ih (i + 1) (by omega) (by omega)
    · rw [if_pos (nI_le q (by omega)), if_pos (nI_le q (by omega))]
theorem isLeftover_eq (h : Rel S (M 0) dc gc) (p : Int32) : f7_isLeftover M p = some (f5_isLeftover S p) := by
  have hd := h.1
  have e3 : M 0 (ix (3 : Int32)) = nI dc := h.2.2.2.2.1
  have f1 : fuelN (0 : Int32) (nI dc) = dc := by rw [← nI_0, fuelN_nI (by omega) (by omega)]; rfl
  rw [f7_isLeftover, f5_isLeftover, e3, h.2.2.1, f1]
  exact isLeftover_loop h dc 0 (by omega) (by omega)
end REL2
