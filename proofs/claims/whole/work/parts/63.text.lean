/-- the codes of the buffer -/
def cd (T : Pic) (i : Nat) : Nat := ix (T 0 i)
/-- how many ";" stand before i -/
def nS (T : Pic) (i : Nat) : Nat := cN (fun j => decide (cd T j = 59)) i
/-- the number that n characters behind the "d" at s spell -/
def dv (T : Pic) (s : Nat) : Nat → Int32
  | 0 => 0
  | n + 1 => dv T s n * 10 + T 0 (s + 1 + n) - 48
def CD (T : Pic) (L : Nat) : Prop := L ≤ 60 ∧ T 1 0 = nI L ∧ ∀ i : Nat, i < L → T 0 i = nI (cd T i) ∧ 33 ≤ cd T i ∧ cd T i ≤ 126
/-- an entry begins at s -/
def beg (T : Pic) (e s : Nat) : Prop := nS T s = e ∧ (s = 0 ∨ (2 ≤ s ∧ cd T (s - 1) = 59 ∧ cd T (s - 2) ≠ 61))
theorem nS_t {T : Pic} {i : Nat} (h : cd T i = 59) : nS T (i + 1) = nS T i + 1 := cN_t (by rw [decide_eq_true h])
theorem nS_f {T : Pic} {i : Nat} (h : ¬ cd T i = 59) : nS T (i + 1) = nS T i := cN_f (by rw [decide_eq_false h])
theorem nS_le {T : Pic} {i : Nat} : ∀ n : Nat, nS T i ≤ nS T (i + n) := by
  intro n
  induction n with
  | zero => exact Nat.le_refl _
  | succ n ih =>
    refine Nat.le_trans ih ?_
    show nS T (i + n) ≤ nS T (i + n + 1)
    by_cases h : cd T (i + n) = 59
    · rw [nS_t h]; omega
    · rw [nS_f h]; omega
theorem nS_same {T : Pic} {i : Nat} : ∀ n : Nat, (∀ j : Nat, i ≤ j → j < i + n → ¬ cd T j = 59) → nS T (i + n) = nS T i := by
  intro n
  induction n with
  | zero => intro _; rfl
  | succ n ih =>
    intro h
    show nS T (i + n + 1) = _
    rw [nS_f (h (i + n) (by omega) (by omega))]
    exact ih (fun j a b => h j a (by omega))
section TE
variable {T M : Pic} {L : Nat}
theorem CD.at (h : CD T L) {i : Nat} (hi : i < L) : f6_at 60 (T 0) (nI i) = nI (cd T i) := by
  have := h.1
  rw [f6_at_nI (by omega) (by omega)]; exact (h.2.2 i hi).1
theorem CD.is (h : CD T L) {i k : Nat} (hi : i < L) (hk : k < 2 ^ 31) : f6_at 60 (T 0) (nI i) = nI k ↔ cd T i = k := by
  rw [h.at hi]
  have := (h.2.2 i hi).2.2
  exact nI_eq (by omega) hk
theorem startOf_loop (h : CD T L) {e s : Nat} (hs : s ≤ L) (hb : beg T e s) : ∀ (n i start : Nat), i + n = L → i ≤ s → (i = s → start = s) → f3_startOf_L7 T (nI e) n (nI start) (nI (nS T i)) (nI i) (fun x => x) = nI s := by
  intro n
  induction n with
  | zero =>
    intro i start hi h1 h2
    rw [f3_startOf_L7, h2 (by omega)]
  | succ n ih =>
    intro i start hi h1 h2
    have hL := h.1
    have hnl : nS T i ≤ 60 := Nat.le_trans (cN_le i) (by omega)
    have hne : e ≤ 60 := by rw [← hb.1]; exact Nat.le_trans (cN_le s) (by omega)
    rw [f3_startOf_L7, h.2.1, if_neg (nI_ge (by omega) (by omega))]
    by_cases c : i = s
    · rw [if_pos (by rw [c, hb.1]; exact nI_le (Nat.le_refl _) (by omega)), h2 c]
    · have hlt : nS T i < e := by
        rcases hb.2 with z | ⟨z1, z2, z3⟩
        · omega
        · have q1 := nS_t z2
          rw [show s - 1 + 1 = s by omega, hb.1] at q1
          have q2 := nS_le (T := T) (i := i) (s - 1 - i)
          rw [show i + (s - 1 - i) = s - 1 by omega] at q2
          omega
      have e59 : (59 : Int32) = nI 59 := rfl
      rw [if_neg (nI_ge hlt (by omega)), e59]
      by_cases c2 : cd T i = 59
      · rw [if_pos ((h.is (by omega) (by omega)).mpr c2), bd_eq, nI_1, nI_1, ← nS_t c2]
        exact ih (i + 1) (i + 1) (by omega) (by omega) (fun z => z)
      · rw [if_neg (fun z => c2 ((h.is (by omega) (by omega)).mp z)), nI_1, ← nS_f c2]
        refine ih (i + 1) start (by omega) (by omega) (fun z => ?_)
        rcases hb.2 with y | ⟨y1, y2, y3⟩
        · omega
        · rw [show s - 1 = i by omega] at y2
          exact absurd y2 c2
theorem startOf_eq (h : CD T L) {e s : Nat} (hs : s ≤ L) (hb : beg T e s) : f3_startOf T (nI e) = nI s := by
  have hL := h.1
  have f1 : fuelN (0 : Int32) (nI L) = L := by rw [← nI_0, fuelN_nI (by omega) (by omega)]; rfl
  rw [f3_startOf, h.2.1, f1]
  refine startOf_loop h hs hb L 0 0 (by omega) (Nat.zero_le _) (fun z => z)
theorem dayFrom_eq (h : CD T L) {s q : Nat} (hsq : s < q) (hq : q < L) (h61 : cd T q = 61) (hn : ∀ j : Nat, s ≤ j → j < q → ¬ cd T j = 61) : f3_dayFrom T (nI s) = dv T s (q - s - 1) := by
  have hL := h.1
  have e61 : (61 : Int32) = nI 61 := rfl
  have key : ∀ n i : Nat, s + 1 + i + n = L → s + 1 + i ≤ q → f3_dayFrom_L6 T n (dv T s i) (nI (s + 1 + i)) (fun x => x) = dv T s (q - s - 1) := by
    intro n
    induction n with
    | zero => intro i h1 h2; omega
    | succ n ih =>
      intro i h1 h2
      rw [f3_dayFrom_L6, h.2.1, if_neg (nI_ge (by omega) (by omega)), e61]
      by_cases c : s + 1 + i = q
      · rw [if_pos ((h.is (by omega) (by omega)).mpr (by rw [c]; exact h61)), show q - s - 1 = i by omega]
      · rw [if_neg (fun z => hn (s + 1 + i) (by omega) (by omega) ((h.is (by omega) (by omega)).mp z)), bd_eq, f6_at_nI (by omega) (by omega), nI_1]
        exact ih (i + 1) (by omega) (by omega)
  rw [f3_dayFrom, bd_eq, nI_1, h.2.1, fuelN_nI (by omega) (by omega)]
  exact key (L - (s + 1)) 0 (by omega) (by omega)
theorem dishFrom_eq (h : CD T L) {s q : Nat} (hsq : s ≤ q) (hq : q < L) (h61 : cd T q = 61) (hn : ∀ j : Nat, s ≤ j → j < q → ¬ cd T j = 61) : f3_dishFrom T (nI s) = f6_at 60 (T 0) (nI (q + 1)) - 97 := by
  have hL := h.1
  have e61 : (61 : Int32) = nI 61 := rfl
  have key : ∀ n i : Nat, s + i + n = L → s + i ≤ q → f3_dishFrom_L2 T n (nI (s + i)) (-1) = f6_at 60 (T 0) (nI (q + 1)) - 97 := by
    intro n
    induction n with
    | zero => intro i h1 h2; omega
    | succ n ih =>
      intro i h1 h2
      rw [f3_dishFrom_L2, h.2.1, if_neg (nI_ge (by omega) (by omega)), e61]
      by_cases c : s + i = q
      · rw [if_pos ((h.is (by omega) (by omega)).mpr (by rw [c]; exact h61)), nI_1, c]
      · rw [if_neg (fun z => hn (s + i) (by omega) (by omega) ((h.is (by omega) (by omega)).mp z)), nI_1]
        exact ih (i + 1) (by omega) (by omega)
  rw [f3_dishFrom, h.2.1, fuelN_nI (by omega) (by omega)]
  exact key (L - s) 0 (by omega) (by omega)
end TE
/-- what an entry tells -/
def ent (T M : Pic) (L e : Nat) : Prop := ∃ s : Nat, s < L ∧ beg T e s ∧ f3_dayFrom T (nI s) = M 10 (2 * e) ∧ f3_dishFrom T (nI s) = M 10 (2 * e + 1) ∧ ∃ v : Nat, v ≤ 27 ∧ M 10 (2 * e) = nI v
/-- the two readers, at place k -/
def PS (T M : Pic) (L k pl rd st : Nat) : Prop := M 11 0 = nI rd ∧ st ≤ k ∧ 5 * rd ≤ st ∧ beg T rd st ∧ (∀ j : Nat, st ≤ j → j < k → ¬ cd T j = 59) ∧ (∀ e : Nat, e < rd → ent T M L e) ∧ ((pl = 0 ∧ M 13 0 = 0 ∧ k = st) ∨ (pl = 1 ∧ M 13 0 = 1 ∧ M 12 0 = -1 ∧ k = st + 1 ∧ ¬ cd T st = 61) ∨ (M 13 0 = 1 ∧ (∃ v : Nat, M 12 0 = nI v ∧ ((pl = 2 ∧ v = 1) ∨ (pl = 3 ∧ v = 2) ∨ (pl = 4 ∧ (v = 0 ∨ (3 ≤ v ∧ v ≤ 27)))) ∧ dv T st (k - st - 1) = nI v) ∧ st + 2 ≤ k ∧ ∀ j : Nat, st ≤ j → j < k → ¬ cd T j = 61) ∨ (pl = 5 ∧ M 13 0 = 2 ∧ st + 3 ≤ k ∧ cd T (k - 1) = 61 ∧ (∀ j : Nat, st ≤ j → j < k - 1 → ¬ cd T j = 61) ∧ M 10 (2 * rd) = dv T st (k - 1 - st - 1) ∧ ∃ v : Nat, v ≤ 27 ∧ M 10 (2 * rd) = nI v) ∨ (pl = 6 ∧ M 13 0 = 3 ∧ st + 4 ≤ k ∧ cd T (k - 2) = 61 ∧ ¬ cd T (k - 1) = 61 ∧ (∀ j : Nat, st ≤ j → j < k - 2 → ¬ cd T j = 61) ∧ M 10 (2 * rd) = dv T st (k - 2 - st - 1) ∧ M 10 (2 * rd + 1) = T 0 (k - 1) - 97 ∧ ∃ v : Nat, v ≤ 27 ∧ M 10 (2 * rd) = nI v))
def Fx (M M' : Pic) : Prop := ∀ j : Nat, j ≠ 10 → j ≠ 11 → j ≠ 12 → j ≠ 13 → M' j = M j
theorem Fx.r {M : Pic} : Fx M M := fun _ _ _ _ _ => rfl
theorem Fx.tr {M M' M'' : Pic} (h : Fx M M') (h' : Fx M' M'') : Fx M M'' := fun j a b c d => (h' j a b c d).trans (h j a b c d)
theorem Fx.p {M M' : Pic} {k : Nat} {f : Nat → Int32} (h : Fx M M') (hk : k = 10 ∨ k = 11 ∨ k = 12 ∨ k = 13) : Fx M (pset M' k f) := fun j a b c d => (pset_ne (by omega)).trans (h j a b c d)
theorem Fx.e6 {M M' : Pic} (h : Fx M M') : E6 M M' := fun j hj => h j (by omega) (by omega) (by omega) (by omega)
theorem pa0 (x : Int32) : f3_placeAfter (nI 0) x = if x = 100 then 1 else -1 := rfl
theorem pa1 (x : Int32) : f3_placeAfter (nI 1) x = f3_placeAfterFirstDigit x := rfl
theorem pa2 (x : Int32) : f3_placeAfter (nI 2) x = if f6_isWithin x 48 57 = 0 then f3_placeAfterDay x else 4 := rfl
theorem pa3 (x : Int32) : f3_placeAfter (nI 3) x = if f6_isWithin x 48 55 = 0 then f3_placeAfterDay x else 4 := rfl
theorem pa4 (x : Int32) : f3_placeAfter (nI 4) x = f3_placeAfterDay x := rfl
theorem pa5 (x : Int32) : f3_placeAfter (nI 5) x = if f6_isWithin x 97 108 = 0 then -1 else 6 := rfl
theorem pa6 (x : Int32) : f3_placeAfter (nI 6) x = if x = 59 then 0 else -1 := rfl
theorem ent_keep {T M M' : Pic} {L e rd : Nat} (he : e < rd) (h : ∀ i : Nat, i < 2 * rd → M' 10 i = M 10 i) (x : ent T M L e) : ent T M' L e := by
  obtain ⟨s, a, b, c, d, g⟩ := x
  exact ⟨s, a, b, by rw [h _ (by omega)]; exact c, by rw [h _ (by omega)]; exact d, by rw [h _ (by omega)]; exact g⟩
/-- a digit -/
theorem digit_eq {M : Pic} {x : Int32} (v : Int32) (hv : (if M 12 0 = -1 then x else 10 * M 12 0 + x) = v) : f7_takesDigit M x = (if f7_within x 0 9 = 0 then some (0, pset M 12 (fun _ => M 12 0)) else if M 12 0 = 0 then some (0, pset M 12 (fun _ => M 12 0)) else if f7_isDay v = 0 then some (0, pset M 12 (fun _ => M 12 0)) else some (1, pset M 12 (fun _ => v))) := by
  rw [f7_takesDigit]
  by_cases c : M 12 0 = -1
  · rw [if_pos c] at hv
    rw [if_pos c, hv]; rfl
  · rw [if_neg c] at hv
    rw [if_neg c, bd_eq, hv]; rfl
