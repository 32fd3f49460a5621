theorem cnt_cs (p : Int32) {n : Nat} (hn : n < 2 ^ 20) : ((if p < 0 then (0 : Int32) else (if nI n ≤ p then (0 : Int32) else 1)) = 0 ∧ f7_within p 0 (nI n - 1) = 0) ∨ ∃ j : Nat, j < n ∧ p = nI j ∧ (if p < 0 then (0 : Int32) else (if nI n ≤ p then (0 : Int32) else 1)) = 1 ∧ f7_within p 0 (nI n - 1) = 1 := by
  have ht : (nI n - 1).toInt = (n : Int) - 1 := by
    have := pk_sub_toInt (a := n) (b := 1) (by omega) (by omega)
    exact this
  unfold f7_within
  rcases pk_ix p (n := n) (by omega) with q | q | ⟨j, hj, q⟩
  · rw [if_pos q, if_pos q]
    exact Or.inl ⟨rfl, rfl⟩
  · by_cases c : p < 0
    · rw [if_pos c, if_pos c]
      exact Or.inl ⟨rfl, rfl⟩
    · have h2 : nI n - 1 < p := by
        rw [Int32.lt_iff_toInt_lt, ht]
        have h3 := Int32.le_iff_toInt_le.mp q
        rw [nI_toInt (by omega)] at h3
        omega
      rw [if_neg c, if_pos q, if_neg c, if_pos h2]
      exact Or.inl ⟨rfl, rfl⟩
  · have h2 : ¬ nI n - 1 < p := by
      rw [Int32.lt_iff_toInt_lt, ht, q, nI_toInt (by omega)]
      omega
    have c : ¬ p < 0 := by rw [q]; exact nI_pos (by omega)
    rw [if_neg c, if_neg c, if_neg h2, if_neg (by rw [q]; exact nI_ge hj (by omega))]
    exact Or.inr ⟨j, hj, q, rfl, rfl⟩
theorem ne0 {r : Int32} (h : r = 1) : ¬ r = 0 := by rw [h]; decide
theorem day_cs (p : Int32) : (f6_isDay p = 0 ∧ f7_isDay p = 0) ∨ ∃ j : Nat, j < 28 ∧ p = nI j ∧ f6_isDay p = 1 ∧ f7_isDay p = 1 := cnt_cs p (n := 28) (by omega)
theorem part_cs (p : Int32) : (f6_isPart p = 0 ∧ f7_isPart p = 0) ∨ ∃ j : Nat, j < 3 ∧ p = nI j ∧ f6_isPart p = 1 ∧ f7_isPart p = 1 := cnt_cs p (n := 3) (by omega)
theorem dish_cs {S M : Pic} {dc gc : Nat} (h : Rel S (M 0) dc gc) (p : Int32) : (f5_hasDish S p = 0 ∧ f7_isDish M p = 0) ∨ ∃ j : Nat, j < dc ∧ p = nI j ∧ f5_hasDish S p = 1 ∧ f7_isDish M p = 1 := by
  have hdc := h.1
  have e3 : M 0 (ix (3 : Int32)) = nI dc := h.2.2.2.2.1
  unfold f5_hasDish f7_isDish
  rw [h.2.2.1, e3]
  exact cnt_cs p (by omega)
theorem guest_cs {S M : Pic} {dc gc : Nat} (h : Rel S (M 0) dc gc) (p : Int32) : (f5_hasGuest S p = 0 ∧ f7_isGuest M p = 0) ∨ ∃ j : Nat, j < gc ∧ p = nI j ∧ f5_hasGuest S p = 1 ∧ f7_isGuest M p = 1 := by
  have hgc := h.2.1
  have e4 : M 0 (ix (4 : Int32)) = nI gc := h.2.2.2.2.2.1
  unfold f5_hasGuest f7_isGuest
  rw [h.2.2.2.1, e4]
  exact cnt_cs p (by omega)
theorem wi_cs (p : Int32) {a b : Nat} (hb : b < 2 ^ 31) (ha : a < 2 ^ 31) : (f6_isWithin p (nI a) (nI b) = 0 ∧ f7_within p (nI a) (nI b) = 0) ∨ ∃ j : Nat, a ≤ j ∧ j ≤ b ∧ p = nI j ∧ f6_isWithin p (nI a) (nI b) = 1 ∧ f7_within p (nI a) (nI b) = 1 := by
  unfold f6_isWithin f7_within
  by_cases c1 : p < nI a
  · rw [if_pos c1]; exact Or.inl ⟨rfl, rfl⟩
  · rw [if_neg c1]
    by_cases c2 : nI b < p
    · rw [if_pos c2]; exact Or.inl ⟨rfl, rfl⟩
    · rw [if_neg c2]
      have h1 := Int32.not_lt.mp c1
      have h2 := Int32.not_lt.mp c2
      obtain ⟨j, hj, q⟩ := nI_of (x := p) (fun z => by
        have h3 := Int32.le_iff_toInt_le.mp h1
        have h4 := Int32.lt_iff_toInt_lt.mp z
        rw [nI_toInt ha] at h3
        have h5 : (0 : Int32).toInt = 0 := rfl
        omega)
      subst q
      exact Or.inr ⟨j, (nI_leI ha hj).mp h1, (nI_leI hj hb).mp h2, rfl, rfl, rfl⟩
/-- the kept plans -/
def SN (N M : Pic) : Prop := ∀ k : Nat, k < 2 → (N 1 k = 0 ∧ M 4 k = 0) ∨ (N 1 k = 1 ∧ M 4 k = 1 ∧ ∀ c : Nat, c < 84 → N 0 (84 * k + c) = M 3 (84 * k + c) ∧ (M 3 (84 * k + c) = -1 ∨ ∃ d : Nat, d < 12 ∧ M 3 (84 * k + c) = nI d))
/-- the buffer -/
def TX (T M : Pic) : Prop := ∃ L : Nat, L ≤ 60 ∧ T 1 0 = nI L ∧ M 5 0 = nI L ∧ ∀ i : Nat, i < L → T 0 i = M 6 i ∧ ∃ a : Nat, 33 ≤ a ∧ a ≤ 126 ∧ M 6 i = nI a
/-- between two calls -/
def INV (S G : Pic) (Z : Nat → Pic) (N T M : Pic) : Prop := (∃ dc gc : Nat, SR S (M 0) dc gc) ∧ HR G Z M ∧ SN N M ∧ TX T M
def E6 (M M' : Pic) : Prop := ∀ j : Nat, j ≤ 6 → M' j = M j
theorem E6.r {M : Pic} : E6 M M := fun _ _ => rfl
theorem E6.tr {M M' M'' : Pic} (h : E6 M M') (h' : E6 M' M'') : E6 M M'' := fun j a => (h' j a).trans (h j a)
theorem Fr.e6 {M M' : Pic} (h : Fr M M') : E6 M M' := fun j a => h j (by omega) (by omega)
theorem E6.p {M M' : Pic} {k : Nat} {f : Nat → Int32} (h : E6 M M') (hk : 7 ≤ k) : E6 M (pset M' k f) := fun j a => (pset_ne (by omega)).trans (h j a)
theorem INV.e6 {S G : Pic} {Z : Nat → Pic} {N T M M' : Pic} (h : INV S G Z N T M) (e : E6 M M') : INV S G Z N T M' := by
  unfold INV HR SN TX at h ⊢
  rw [e 0 (by omega), e 1 (by omega), e 2 (by omega), e 3 (by omega), e 4 (by omega), e 5 (by omega), e 6 (by omega)]
  exact h
/-- how the two answers fit: ks are the throws, in their order -/
def an (ks : List Int32) (c r b : Int32) (M' : Pic) : Prop := (c = 0 ∧ M' 7 0 = 0 ∧ r = b) ∨ ∃ i : Nat, ks[i]? = some c ∧ M' 7 0 = nI (i + 1)
theorem an.ok {ks : List Int32} {r : Int32} {M' : Pic} (h : M' 7 0 = 0) : an ks 0 r r M' := Or.inl ⟨rfl, h, rfl⟩
theorem an.th {ks : List Int32} {c r b : Int32} {M' : Pic} (i : Nat) (h1 : ks[i]? = some c) (h2 : M' 7 0 = nI (i + 1)) : an ks c r b M' := Or.inr ⟨i, h1, h2⟩
/-- the model's row of a call: what was thrown -/
theorem p7 {M : Pic} {v : Int32} : (pset M 7 (fun _ => v)) 7 0 = v := by rw [pset_same]
theorem p7_fr {M M' : Pic} {v : Int32} (h : Fr (pset M 7 (fun _ => v)) M') : M' 7 0 = v := by rw [h 7 (by decide) (by decide), p7]
theorem e7 {M : Pic} {v : Int32} : E6 M (pset M 7 (fun _ => v)) := E6.r.p (by omega)
theorem e7_fr {M M' : Pic} {v : Int32} (h : Fr (pset M 7 (fun _ => v)) M') : E6 M M' := e7.tr h.e6
section FIG
variable {S G N T M : Pic} {Z : Nat → Pic} {dc gc : Nat}
theorem taken_eq (h : SN N M) : f4_takenCount N = M 4 (ix 0) + M 4 (ix 1) := by
  have t : ∀ k : Nat, k < 2 → f4_isTaken N (nI k) = M 4 k := by
    intro k hk
    unfold f4_isTaken
    rw [if_neg (nI_pos (by omega)), if_neg (nI_ge hk (by omega)), ix_nI (by omega)]
    rcases h k hk with ⟨a, b⟩ | ⟨a, b, -⟩
    · rw [a, b]; rfl
    · rw [a, b]; rfl
  have t0 : f4_isTaken N 0 = M 4 0 := t 0 (by omega)
  have t1 : f4_isTaken N (0 + 1) = M 4 1 := t 1 (by omega)
  have m : ∀ k : Nat, k < 2 → M 4 k = 0 ∨ M 4 k = 1 := fun k hk => by
    rcases h k hk with ⟨a, b⟩ | ⟨a, b, -⟩
    · exact Or.inl b
    · exact Or.inr b
  show f4_takenCount N = M 4 0 + M 4 1
  rw [f4_takenCount, f4_takenCount_L4, if_neg (by decide), bd_eq, t0]
  rcases m 0 (by omega) with a | a
  · rw [a, if_pos rfl, f4_takenCount_L4, if_neg (by decide), bd_eq, t1]
    rcases m 1 (by omega) with b | b
    · rw [b, if_pos rfl]; rfl
    · rw [b, if_neg (by decide)]; rfl
  · rw [a, if_neg (by decide), f4_takenCount_L4, if_neg (by decide), bd_eq, t1]
    rcases m 1 (by omega) with b | b
    · rw [b, if_pos rfl]; rfl
    · rw [b, if_neg (by decide)]; rfl
theorem counted_eq (Y : Pic) (h : Rel S (M 0) dc gc) (w : Wf S dc) (hh : HR G Z M) (hn : SN N M) {j : Nat} (hj : j ≤ 13) : ∃ (r : Int32) (Y' M' : Pic), f6_figureOfAll S Y G N (nI j) = (r, Y') ∧ f7_counted M (nI j) = some (r, M') ∧ Fr M M' := by
  have hdc := h.1
  have e3 : M 0 (ix (3 : Int32)) = nI dc := h.2.2.2.2.1
  have e4 : M 0 (ix (4 : Int32)) = nI gc := h.2.2.2.2.2.1
  have : j = 0 ∨ j = 1 ∨ j = 2 ∨ j = 3 ∨ j = 4 ∨ j = 5 ∨ j = 6 ∨ j = 7 ∨ j = 8 ∨ j = 9 ∨ j = 10 ∨ j = 11 ∨ j = 12 ∨ j = 13 := by omega
  rcases this with rfl | rfl | rfl | rfl | rfl | rfl | rfl | rfl | rfl | rfl | rfl | rfl | rfl | rfl
  · exact ⟨S 0 0, Y, M, rfl, by rw [h.2.2.1, ← e3]; rfl, Fr.rfl'⟩
  · exact ⟨S 7 0, Y, M, rfl, by rw [h.2.2.2.1, ← e4]; rfl, Fr.rfl'⟩
  · refine ⟨f5_planCount S, Y, M, rfl, ?_, Fr.rfl'⟩
    show ob1 (f7_dishesInPlan M) (fun r4 => some (r4, M)) = _
    rw [dishesInPlan_eq h]; rfl
  · refine ⟨f2_joyOfPlan S, Y, M, rfl, ?_, Fr.rfl'⟩
    show ob1 (f7_joyOfAll M) (fun r4 => some (r4, M)) = _
    rw [joyOfAll_eq h w]; rfl
  · refine ⟨f5_planCost S, Y, M, rfl, ?_, Fr.rfl'⟩
    show ob1 (f7_costOfAll M) (fun r4 => some (r4, M)) = _
    rw [costOfAll_eq h w]; rfl
  · obtain ⟨M', x1, x2⟩ := sources0_eq h w
    refine ⟨f5_sourceCount S, Y, M', rfl, ?_, x2⟩
    show ob2 (f7_sources M 0) (fun r13 u14 => some (r13, u14)) = _
    rw [x1, sourceCount_eq]; rfl
  · obtain ⟨M', x1, x2⟩ := sources1_eq h w
    obtain ⟨Y', y1⟩ := wastedOfAll_eq w hdc h.2.2.1 Y
    refine ⟨nI (nWst S), Y', M', ?_, ?_, x2⟩
    · show bd2 (f1_wastedOfAll Y S) (fun r12 u13 => (r12, u13)) = _
      rw [y1]; rfl
    · show ob2 (f7_sources M 1) (fun r13 u14 => some (r13, u14)) = _
      rw [x1]; rfl
  · refine ⟨f5_wholeMeals S, Y, M, rfl, ?_, Fr.rfl'⟩
    show ob1 (f7_wholeDays M) (fun r4 => some (r4, M)) = _
    rw [wholeDays_eq h]; rfl
  · refine ⟨f5_weekCost S (nI 0), Y, M, rfl, ?_, Fr.rfl'⟩
    show ob1 (f7_weekCost M (nI 0)) (fun r4 => some (r4, M)) = _
    rw [weekCost_eq h w (by omega)]; rfl
  · refine ⟨f5_weekCost S (nI 1), Y, M, rfl, ?_, Fr.rfl'⟩
    show ob1 (f7_weekCost M (nI 1)) (fun r4 => some (r4, M)) = _
    rw [weekCost_eq h w (by omega)]; rfl
  · refine ⟨f5_weekCost S (nI 2), Y, M, rfl, ?_, Fr.rfl'⟩
    show ob1 (f7_weekCost M (nI 2)) (fun r4 => some (r4, M)) = _
    rw [weekCost_eq h w (by omega)]; rfl
  · refine ⟨f5_weekCost S (nI 3), Y, M, rfl, ?_, Fr.rfl'⟩
    show ob1 (f7_weekCost M (nI 3)) (fun r4 => some (r4, M)) = _
    rw [weekCost_eq h w (by omega)]; rfl
  · refine ⟨f4_takenCount N, Y, M, rfl, ?_, Fr.rfl'⟩
    rw [taken_eq hn]; rfl
  · obtain ⟨o, n, -, -, -, g2, m1, -⟩ := hh
    refine ⟨G 2 0, Y, M, rfl, ?_, Fr.rfl'⟩
    rw [g2, ← m1]; rfl
theorem dishNow_eq (Y : Pic) (h : Rel S (M 0) dc gc) (w : Wf S dc) {e j : Nat} (he : e < dc) (hj : j ≤ 8) : ∃ (r : Int32) (Y' M' : Pic), f6_figureOfDish S Y (nI e) (nI j) = (r, Y') ∧ f7_dishNow M (nI e) (nI j) = some (r, M') ∧ Fr M M' := by
  have hdc := h.1
  have : j = 0 ∨ j = 1 ∨ j = 2 ∨ j = 3 ∨ j = 4 ∨ j = 5 ∨ j = 6 ∨ j = 7 ∨ j = 8 := by omega
  rcases this with rfl | rfl | rfl | rfl | rfl | rfl | rfl | rfl | rfl
  · refine ⟨S 1 e, Y, M, ?_, ?_, Fr.rfl'⟩
    · show (f6_at 12 (S 1) (nI e), Y) = _
      rw [f6_at_nI (by omega) (by omega)]
    · show ob1 (f7_of M (nI e) (nI 0)) (fun r14 => some (r14, M)) = _
      rw [h.of he (by omega)]; rfl
  · refine ⟨S 2 e, Y, M, ?_, ?_, Fr.rfl'⟩
    · show (f6_at 12 (S 2) (nI e), Y) = _
      rw [f6_at_nI (by omega) (by omega)]
    · show ob1 (f7_of M (nI e) (nI 1)) (fun r14 => some (r14, M)) = _
      rw [h.of he (by omega)]; rfl
  · refine ⟨S 3 e, Y, M, ?_, ?_, Fr.rfl'⟩
    · show (f6_at 12 (S 3) (nI e), Y) = _
      rw [f6_at_nI (by omega) (by omega)]
    · show ob1 (f7_of M (nI e) (nI 2)) (fun r14 => some (r14, M)) = _
      rw [h.of he (by omega)]; rfl
  · refine ⟨S 4 e, Y, M, ?_, ?_, Fr.rfl'⟩
    · show (f6_at 12 (S 4) (nI e), Y) = _
      rw [f6_at_nI (by omega) (by omega)]
    · show ob1 (f7_of M (nI e) (nI 3)) (fun r14 => some (r14, M)) = _
      rw [h.of he (by omega)]; rfl
  · refine ⟨S 5 e, Y, M, ?_, ?_, Fr.rfl'⟩
    · show (f6_at 12 (S 5) (nI e), Y) = _
      rw [f6_at_nI (by omega) (by omega)]
    · show ob1 (f7_of M (nI e) (nI 4)) (fun r14 => some (r14, M)) = _
      rw [h.of he (by omega)]; rfl
  · refine ⟨S 6 e, Y, M, ?_, ?_, Fr.rfl'⟩
    · show (f6_at 12 (S 6) (nI e), Y) = _
      rw [f6_at_nI (by omega) (by omega)]
    · show ob1 (f7_of M (nI e) (nI 5)) (fun r14 => some (r14, M)) = _
      rw [h.of he (by omega)]; rfl
  · refine ⟨if f5_isLeftover S (nI e) = 0 then 0 else 1, Y, M, ?_, ?_, Fr.rfl'⟩
    · show (if f5_isLeftover S (nI e) = 0 then ((0 : Int32), Y) else ((1 : Int32), Y)) = _
      split <;> rfl
    · show ob1 (f7_isLeftover M (nI e)) (fun r2 => if r2 = 0 then some ((0 : Int32), M) else some ((1 : Int32), M)) = _
      rw [isLeftover_eq h, ob1_some]
      split <;> rfl
  · obtain ⟨M', x1, x2⟩ := servings0_eq h w (nI e)
    refine ⟨f5_timesPlanned S (nI e), Y, M', rfl, ?_, x2⟩
    show ob2 (f7_servings M (nI e) 0) (fun r7 u8 => some (r7, u8)) = _
    rw [x1]; rfl
  · obtain ⟨M', x1, x2⟩ := servings1_eq h w e
    obtain ⟨Y', y1⟩ := wastedOf_eq w hdc h.2.2.1 Y he
    refine ⟨nI (cN (wstOf S e) 84), Y', M', ?_, ?_, x2⟩
    · show bd2 (f1_wastedOf Y S (nI e)) (fun r20 u21 => (r20, u21)) = _
      rw [y1]; rfl
    · show ob2 (f7_servings M (nI e) 1) (fun r7 u8 => some (r7, u8)) = _
      rw [x1]; rfl
theorem guestNow_eq (h : Rel S (M 0) dc gc) {g j : Nat} (hg : g < gc) (hj : j ≤ 2) : f7_guestNow M (nI g) (nI j) = some (f6_figureOfGuest S (nI g) (nI j)) := by
  have hgc := h.2.1
  have h8 := h.2.2.2.2.2.2.2.1 g hg
  have : j = 0 ∨ j = 1 ∨ j = 2 := by omega
  rcases this with rfl | rfl | rfl
  · show ob1 (f7_ofGuest M (nI g) (nI 0)) (fun r13 => some r13) = some (f6_at 6 (S 8) (nI g))
    rw [f7_ofGuest_nI (by omega), f6_at_nI (by omega) (by omega), ob1_some, Nat.add_zero, h8.1]
  · show ob1 (f7_ofGuest M (nI g) (nI 1)) (fun r13 => some r13) = some (f6_at 6 (S 9) (nI g))
    rw [f7_ofGuest_nI (by omega), f6_at_nI (by omega) (by omega), ob1_some, h8.2]
  · exact guestNow_loop h hg 28 0 0 rfl
theorem dayNow_eq (h : Rel S (M 0) dc gc) (w : Wf S dc) {day j : Nat} (hd : day < 28) (hj : j ≤ 4) : f7_dayNow M (nI day) (nI j) = some (f6_figureOfDay S (nI day) (nI j)) := by
  have : j = 0 ∨ j = 1 ∨ j = 2 ∨ j = 3 ∨ j = 4 := by omega
  rcases this with rfl | rfl | rfl | rfl | rfl
  · rw [f7_dayNow, f6_figureOfDay, if_pos (show nI 0 = 0 from rfl), if_pos (show nI 0 = 0 from rfl), dishesOf_eq h hd, ob1_some, bd_eq]
  · rw [f7_dayNow, f6_figureOfDay, if_neg (by decide), if_pos (show nI 1 = 1 from rfl), if_neg (by decide), if_pos (show nI 1 = 1 from rfl), costOf_eq h w hd, ob1_some, bd_eq]
  · rw [f7_dayNow, f6_figureOfDay, if_neg (by decide), if_neg (by decide), if_pos (show nI 2 = 2 from rfl), if_neg (by decide), if_neg (by decide), if_pos (show nI 2 = 2 from rfl), joyOf_eq h w hd, ob1_some, bd_eq]
  · rw [f7_dayNow, f6_figureOfDay, if_neg (by decide), if_neg (by decide), if_neg (by decide), if_pos (show nI 3 = 3 from rfl), if_neg (by decide), if_neg (by decide), if_neg (by decide), if_pos (show nI 3 = 3 from rfl), vetoed_eq h, ob1_some, bd_eq]
  · rw [f7_dayNow, f6_figureOfDay, if_neg (by decide), if_neg (by decide), if_neg (by decide), if_neg (by decide), if_neg (by decide), if_neg (by decide), if_neg (by decide), if_neg (by decide), if_pos (show nI 4 = 4 from rfl), guestsOn_eq h, ob1_some, bd_eq]
end FIG
