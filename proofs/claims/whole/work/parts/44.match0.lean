/-- the last day on which the source at a cell is there -/
def lastD (S : Pic) (c : Nat) : Int32 := nI c / 3 + f6_at 12 (S 6) (S 11 c)
section MAT
variable {S M Y : Pic} {dc gc : Nat}
theorem cell3 {c : Nat} (hc : c < 2 ^ 31) : nI c / 3 = nI (c / 3) := pk_div (d := 3) hc (by omega) (by omega)
theorem lastDay_eq (h : Rel S (M 0) dc gc) {c d : Nat} (hc : c < 84) (hd : d < dc) (e : S 11 c = nI d) : f7_lastDay M (nI c) = some (lastD S c) := by
  have h1 := h.1
  have g : f7_of M (nI d) 5 = some (S 6 d) := h.of (k := 5) hd (by omega)
  rw [f7_lastDay, ck_cell hc, h.cell hc, e, g, ob1_some, lastD, e, f6_at_nI (by omega) (by omega)]
theorem isThere_eq (h : Rel S (M 0) dc gc) (w : Wf S dc) {c e day : Nat} (hc : c < 3 * day) (hday : day ≤ 28) (he : e < dc) : f7_isThere M (nI c) (nI e) (nI day) = some (if f6_at 12 (S 5) (S 11 c) = nI e ∧ M 9 c = 0 ∧ ¬ lastD S c < nI day then 1 else 0) := by
  have h1 := h.1
  have hc2 : c < 84 := by omega
  rw [f7_isThere, f7_isSource, ck_cell hc2, ck_cell hc2, h.cell hc2]
  rcases h.plan w hc2 with q | ⟨d, hd1, hd2, q⟩
  · rw [q, if_pos rfl, ob1_some, if_pos rfl, f6_at_neg, if_neg (fun z => nI_ne_neg (by omega) z.1.symm)]
  · have g4 : f7_of M (nI d) 4 = some (S 5 d) := h.of (k := 4) hd1 (by omega)
    rw [q, if_neg (nI_ne_neg (by omega)), g4, ob1_some, f6_at_nI hd2 (by omega)]
    by_cases c1 : S 5 d = -1
    · rw [if_pos c1, ob1_some, if_pos rfl, if_neg (fun z => nI_ne_neg (by omega) (z.1.symm.trans c1))]
    · rw [if_neg c1, ob1_some, if_neg (by decide), ck_nI hc2 (by omega), ix_nI (by omega)]
      by_cases c2 : M 9 c = 0
      · rw [if_pos c2, ck_cell hc2, ob1_some]
        by_cases c3 : S 5 d = nI e
        · rw [if_pos c3, cell3 (by omega), if_neg (nI_ge (by omega) (by omega)), lastDay_eq h hc2 hd1 q, ob1_some]
          by_cases c4 : lastD S c < nI day
          · rw [if_pos c4, if_neg (fun z => z.2.2 c4)]
          · rw [if_neg c4, if_pos ⟨c3, c2, c4⟩]
        · rw [if_neg c3, if_neg (fun z => c3 z.1)]
      · rw [if_neg c2, if_neg (fun z => c2 z.2.1)]
/-- a source's cell holds a dish -/
theorem src_dish (h : Rel S (M 0) dc gc) (w : Wf S dc) {c e : Nat} (hc : c < 84) (he : e < dc) (z : f6_at 12 (S 5) (S 11 c) = nI e) : ∃ d : Nat, d < dc ∧ S 11 c = nI d := by
  have h1 := h.1
  rcases h.plan w hc with q | ⟨d, hd1, hd2, q⟩
  · rw [q, f6_at_neg] at z
    exact absurd z.symm (nI_ne_neg (by omega))
  · exact ⟨d, hd1, q⟩
theorem src_loop (h : Rel S (M 0) dc gc) (w : Wf S dc) {e day : Nat} (hday : day ≤ 28) (he : e < dc) (hf : ∀ c : Nat, c < 84 → f6_at 12 (S 5) (S 11 c) = nI e → M 9 c = Y 1 c) : ∀ (n i : Nat) (best ce : Int32), i + n = 3 * day → (best = -1 ∨ ∃ b d : Nat, b < 84 ∧ d < dc ∧ best = nI b ∧ S 11 b = nI d ∧ ce = lastD S b) → f7_sourceFor_L5 M (nI e) (nI day) n best (nI i) (fun x => some x) = some (f1_nextSource_L31 Y S (nI e) (nI day) (nI (3 * day)) n best ce (nI i) (fun x => x)) := by
  intro n
  induction n with
  | zero => intro i best ce _ _; rfl
  | succ n ih =>
    intro i best ce hi hb
    have e1 : (3 : Int32) * nI day = nI (3 * day) := by rw [show (3 : Int32) = nI 3 from rfl, pk_mul]
    rw [f7_sourceFor_L5, f1_nextSource_L31, e1, if_neg (nI_ge (by omega) (by omega)), if_neg (nI_ge (by omega) (by omega)), isThere_eq h w (by omega) hday he, ob1_some, f6_at_nI (show i < 84 by omega) (by omega)]
    simp only [bd]
    rw [nI_1, f6_at_nI (show i < 84 by omega) (by omega)]
    have el : nI i / 3 + f6_at 12 (S 6) (S 11 i) = lastD S i := rfl
    rw [el]
    by_cases c1 : f6_at 12 (S 5) (S 11 i) = nI e
    · rw [if_pos c1, hf i (by omega) c1]
      obtain ⟨di, hdi, edi⟩ := src_dish h w (show i < 84 by omega) he c1
      by_cases c2 : Y 1 i = 0
      · rw [if_pos c2]
        by_cases c3 : lastD S i < nI day
        · rw [if_pos c3, if_pos (by rw [if_neg (fun z => z.2.2 c3)])]
          exact ih (i + 1) best ce (by omega) hb
        · rw [if_neg c3, if_neg (by rw [if_pos ⟨c1, c2, c3⟩]; decide)]
          rcases hb with rfl | ⟨b, d, hb1, hd1, rfl, hb2, rfl⟩
          · rw [if_pos rfl, if_pos rfl]
            exact ih (i + 1) _ _ (by omega) (Or.inr ⟨i, di, by omega, hdi, rfl, edi, rfl⟩)
          · rw [if_neg (nI_ne_neg (by omega)), if_neg (nI_ne_neg (by omega)), lastDay_eq h (by omega) hdi edi, ob1_some, lastDay_eq h hb1 hd1 hb2, ob1_some]
            by_cases c4 : lastD S b ≤ lastD S i
            · rw [if_pos c4, if_pos c4]
              exact ih (i + 1) _ _ (by omega) (Or.inr ⟨b, d, hb1, hd1, rfl, hb2, rfl⟩)
            · rw [if_neg c4, if_neg c4]
              exact ih (i + 1) _ _ (by omega) (Or.inr ⟨i, di, by omega, hdi, rfl, edi, rfl⟩)
      · rw [if_neg c2, if_pos (by rw [if_neg (fun z => c2 z.2.1)])]
        exact ih (i + 1) best ce (by omega) hb
    · rw [if_neg c1, if_pos (by rw [if_neg (fun z => c1 z.1)])]
      exact ih (i + 1) best ce (by omega) hb
theorem src_pre (h : Rel S (M 0) dc gc) (w : Wf S dc) {e day : Nat} (hday : day ≤ 28) (he : e < dc) : ∀ (m i n : Nat), i + m = 3 * (day - 6) → 3 * (day - 6) + n = 3 * day → f7_sourceFor_L5 M (nI e) (nI day) (m + n) (-1) (nI i) (fun x => some x) = f7_sourceFor_L5 M (nI e) (nI day) n (-1) (nI (3 * (day - 6))) (fun x => some x) := by
  intro m
  induction m with
  | zero => intro i n hi _; rw [Nat.zero_add, show i = 3 * (day - 6) by omega]
  | succ m ih =>
    intro i n hi hn
    have h1 := h.1
    have e1 : (3 : Int32) * nI day = nI (3 * day) := by rw [show (3 : Int32) = nI 3 from rfl, pk_mul]
    have z : ¬ (f6_at 12 (S 5) (S 11 i) = nI e ∧ M 9 i = 0 ∧ ¬ lastD S i < nI day) := by
      rintro ⟨z1, -, z3⟩
      obtain ⟨d, hd, ed⟩ := src_dish h w (show i < 84 by omega) he z1
      obtain ⟨ww, hw, ew⟩ := (w.1 d hd).2.2
      apply z3
      rw [lastD, ed, f6_at_nI (by omega) (by omega), ew, cell3 (by omega), nI_add]
      exact nI_lt (by omega) (by omega)
    rw [Nat.add_right_comm, f7_sourceFor_L5, e1, if_neg (nI_ge (by omega) (by omega)), isThere_eq h w (by omega) hday he, ob1_some, if_pos (by rw [if_neg z]), nI_1]
    exact ih (i + 1) n (by omega) hn
theorem sourceFor_eq (h : Rel S (M 0) dc gc) (w : Wf S dc) {e day : Nat} (hday : day ≤ 28) (he : e < dc) (hf : ∀ c : Nat, c < 84 → f6_at 12 (S 5) (S 11 c) = nI e → M 9 c = Y 1 c) : f7_sourceFor M (nI e) (nI day) = some (f1_nextSource Y S (nI e) (nI day)) := by
  have e1 : (3 : Int32) * nI day = nI (3 * day) := by rw [show (3 : Int32) = nI 3 from rfl, pk_mul]
  rw [f7_sourceFor, f1_nextSource, e1, show (6 : Int32) = nI 6 from rfl, sub_max (by omega) (by omega), show (0 : Int32) = nI 0 from rfl, f6_cellOf_nI, f6_cellOf_nI]
  simp only [bd, Nat.add_zero]
  rw [fuelN_nI (by omega) (by omega), fuelN_nI (by omega) (by omega)]
  have p := src_pre h w hday he (3 * (day - 6)) 0 (3 * day - 3 * (day - 6)) (by omega) (by omega)
  rw [show 3 * day - 0 = 3 * (day - 6) + (3 * day - 3 * (day - 6)) by omega, p]
  exact src_loop h w hday he hf _ _ _ _ (by omega) (Or.inl rfl)
end MAT
