/-- a source that dish e may find on a day -/
def cand (S : Pic) (fnd : Nat → Int32) (e day c : Nat) : Prop := f6_at 12 (S 5) (S 11 c) = nI e ∧ fnd c = 0 ∧ ¬ lastD S c < nI day
/-- b ends no later than c; of those that end together it is the first -/
def lexle (S : Pic) (b c : Nat) : Prop := lastD S b < lastD S c ∨ (lastD S b = lastD S c ∧ b ≤ c)
/-- what a serving finds: none, or the candidate that ends first, of these the first one, of the cells from lo to hi -/
def best (S : Pic) (fnd : Nat → Int32) (e day lo hi : Nat) (r : Int32) : Prop :=
  (r = -1 ∧ ∀ c : Nat, lo ≤ c → c < hi → ¬ cand S fnd e day c) ∨ ∃ b : Nat, r = nI b ∧ lo ≤ b ∧ b < hi ∧ cand S fnd e day b ∧ ∀ c : Nat, lo ≤ c → c < hi → cand S fnd e day c → lexle S b c
section NX
variable {S Y : Pic}
theorem nx_loop {e day lo : Nat} (hday : day ≤ 28) : ∀ (n i : Nat) (r ce : Int32), i + n = 3 * day → lo ≤ i → ((r = -1 ∧ ∀ c : Nat, lo ≤ c → c < i → ¬ cand S (Y 1) e day c) ∨ ∃ b : Nat, r = nI b ∧ lo ≤ b ∧ b < i ∧ cand S (Y 1) e day b ∧ ce = lastD S b ∧ ∀ c : Nat, lo ≤ c → c < i → cand S (Y 1) e day c → lexle S b c) → best S (Y 1) e day lo (3 * day) (f1_nextSource_L31 Y S (nI e) (nI day) (nI (3 * day)) n r ce (nI i) (fun x => x)) := by
  intro n
  induction n with
  | zero =>
    intro i r ce hi hlo h
    rw [f1_nextSource_L31]
    have : i = 3 * day := by omega
    subst this
    rcases h with h | ⟨b, h1, h2, h3, h4, -, h5⟩
    · exact Or.inl h
    · exact Or.inr ⟨b, h1, h2, h3, h4, h5⟩
  | succ n ih =>
    intro i r ce hi hlo h
    have hno : ¬ cand S (Y 1) e day i → ((r = -1 ∧ ∀ c : Nat, lo ≤ c → c < i + 1 → ¬ cand S (Y 1) e day c) ∨ ∃ b : Nat, r = nI b ∧ lo ≤ b ∧ b < i + 1 ∧ cand S (Y 1) e day b ∧ ce = lastD S b ∧ ∀ c : Nat, lo ≤ c → c < i + 1 → cand S (Y 1) e day c → lexle S b c) := by
      intro hn
      rcases h with ⟨h1, h2⟩ | ⟨b, h1, h2, h3, h4, h6, h5⟩
      · refine Or.inl ⟨h1, fun c hc hc2 hq => ?_⟩
        rcases Nat.lt_or_ge c i with q | q
        · exact h2 c hc q hq
        · rw [show c = i by omega] at hq; exact hn hq
      · refine Or.inr ⟨b, h1, h2, by omega, h4, h6, fun c hc hc2 hq => ?_⟩
        rcases Nat.lt_or_ge c i with q | q
        · exact h5 c hc q hq
        · rw [show c = i by omega] at hq; exact absurd hq hn
    rw [f1_nextSource_L31, if_neg (nI_ge (by omega) (by omega)), f6_at_nI (show i < 84 by omega) (by omega), f6_at_nI (show i < 84 by omega) (by omega)]
    simp only [bd]
    have el : nI i / 3 + f6_at 12 (S 6) (S 11 i) = lastD S i := rfl
    rw [el, nI_1]
    by_cases c1 : f6_at 12 (S 5) (S 11 i) = nI e
    · rw [if_pos c1]
      by_cases c2 : Y 1 i = 0
      · rw [if_pos c2]
        by_cases c3 : lastD S i < nI day
        · rw [if_pos c3]
          exact ih (i + 1) r ce (by omega) (by omega) (hno (fun z => z.2.2 c3))
        · rw [if_neg c3]
          have hy : cand S (Y 1) e day i := ⟨c1, c2, c3⟩
          rcases h with ⟨h1, h2⟩ | ⟨b, h1, h2, h3, h4, h6, h5⟩
          · rw [if_pos h1]
            refine ih (i + 1) _ _ (by omega) (by omega) (Or.inr ⟨i, rfl, hlo, by omega, hy, rfl, fun c hc hc2 hq => ?_⟩)
            rcases Nat.lt_or_ge c i with q | q
            · exact absurd hq (h2 c hc q)
            · rw [show c = i by omega]; exact Or.inr ⟨rfl, Nat.le_refl _⟩
          · subst h1
            subst h6
            rw [if_neg (nI_ne_neg (by omega))]
            by_cases c4 : lastD S b ≤ lastD S i
            · rw [if_pos c4]
              refine ih (i + 1) _ _ (by omega) (by omega) (Or.inr ⟨b, rfl, h2, by omega, h4, rfl, fun c hc hc2 hq => ?_⟩)
              rcases Nat.lt_or_ge c i with q | q
              · exact h5 c hc q hq
              · rw [show c = i by omega]
                by_cases c5 : lastD S b = lastD S i
                · exact Or.inr ⟨c5, by omega⟩
                · exact Or.inl (Int32.lt_of_le_of_ne c4 c5)
            · rw [if_neg c4]
              have c5 : lastD S i < lastD S b := Int32.not_le.mp c4
              refine ih (i + 1) _ _ (by omega) (by omega) (Or.inr ⟨i, rfl, hlo, by omega, hy, rfl, fun c hc hc2 hq => ?_⟩)
              rcases Nat.lt_or_ge c i with q | q
              · rcases h5 c hc q hq with z | ⟨z, -⟩
                · exact Or.inl (Int32.lt_trans c5 z)
                · exact Or.inl (by rw [← z]; exact c5)
              · rw [show c = i by omega]; exact Or.inr ⟨rfl, Nat.le_refl _⟩
      · rw [if_neg c2]
        exact ih (i + 1) r ce (by omega) (by omega) (hno (fun z => c2 z.2.1))
    · rw [if_neg c1]
      exact ih (i + 1) r ce (by omega) (by omega) (hno (fun z => c1 z.1))
theorem nx_best {e day : Nat} (hday : day ≤ 28) : best S (Y 1) e day (3 * (day - 6)) (3 * day) (f1_nextSource Y S (nI e) (nI day)) := by
  rw [f1_nextSource, show (6 : Int32) = nI 6 from rfl, sub_max (by omega) (by omega), show (0 : Int32) = nI 0 from rfl, f6_cellOf_nI, f6_cellOf_nI]
  simp only [bd, Nat.add_zero]
  rw [fuelN_nI (by omega) (by omega)]
  exact nx_loop hday _ _ _ _ (by omega) (Nat.le_refl _) (Or.inl ⟨rfl, fun c h1 h2 => by omega⟩)
end NX
