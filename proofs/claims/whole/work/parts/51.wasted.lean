/-- how many of the first n are so -/
def cN (P : Nat → Bool) : Nat → Nat
  | 0 => 0
  | n + 1 => cN P n + (if P n = true then 1 else 0)
theorem cN_t {P : Nat → Bool} {n : Nat} (h : P n = true) : cN P (n + 1) = cN P n + 1 := by rw [cN, if_pos h]
theorem cN_f {P : Nat → Bool} {n : Nat} (h : P n = false) : cN P (n + 1) = cN P n := by rw [cN, if_neg (by rw [h]; decide)]; rfl
theorem cN_le {P : Nat → Bool} : ∀ n : Nat, cN P n ≤ n := by
  intro n
  induction n with
  | zero => exact Nat.le_refl _
  | succ n ih => rw [cN]; split <;> omega
theorem cN_congr {P Q : Nat → Bool} : ∀ n : Nat, (∀ c : Nat, c < n → P c = Q c) → cN P n = cN Q n := by
  intro n
  induction n with
  | zero => intro _; rfl
  | succ n ih => intro h; rw [cN, cN, ih (fun c hc => h c (by omega)), h n (by omega)]
theorem cN_mono {P Q : Nat → Bool} : ∀ n : Nat, (∀ c : Nat, c < n → P c = true → Q c = true) → cN P n ≤ cN Q n := by
  intro n
  induction n with
  | zero => intro _; exact Nat.le_refl _
  | succ n ih =>
    intro h
    have h1 := ih (fun c hc => h c (by omega))
    have h2 := h n (by omega)
    rw [cN, cN]
    by_cases p : P n = true
    · rw [if_pos p, if_pos (h2 p)]; omega
    · rw [if_neg p]; omega
theorem cN_no {P : Nat → Bool} {n : Nat} (h : ∀ c : Nat, c < n → P c = false) : cN P n = 0 := by
  rw [cN_congr (Q := fun _ => false) n h]
  induction n with
  | zero => rfl
  | succ n ih => rw [cN, ih (fun c hc => h c (by omega))]; rfl
theorem cN_or {P Q : Nat → Bool} : ∀ n : Nat, (∀ c : Nat, c < n → P c = true → Q c = true → False) → cN P n + cN Q n = cN (fun c => P c || Q c) n := by
  intro n
  induction n with
  | zero => intro _; rfl
  | succ n ih =>
    intro h
    have h1 := ih (fun c hc => h c (by omega))
    have h2 := h n (by omega)
    rw [cN, cN, cN]
    by_cases p : P n = true
    · have q : ¬ Q n = true := fun q => h2 p q
      rw [if_pos p, if_neg q, if_pos (show (P n || Q n) = true by rw [p]; rfl)]; omega
    · by_cases q : Q n = true
      · rw [if_neg p, if_pos q, if_pos (show (P n || Q n) = true by rw [q, Bool.or_true])]; omega
      · rw [if_neg p, if_neg q, if_neg (show ¬ (P n || Q n) = true by rw [Bool.or_eq_true]; exact fun z => z.elim p q)]; omega
/-- cell c holds a source -/
def isS (S : Pic) (c : Nat) : Bool := !decide (f6_at 12 (S 5) (S 11 c) = -1)
/-- whether the source at c is found, when all servings have found theirs -/
def fd (S : Pic) (c : Nat) : Int32 := Pf S (ix (f6_at 12 (S 5) (S 11 c))) 84 c
def wst (S : Pic) (c : Nat) : Bool := isS S c && decide (fd S c = 0)
def wstOf (S : Pic) (e c : Nat) : Bool := decide (S 11 c = nI e) && wst S c
def nSrc (S : Pic) : Nat := cN (isS S) 84
def nWst (S : Pic) : Nat := cN (wst S) 84
theorem nWst_le {S : Pic} : nWst S ≤ nSrc S := cN_mono 84 (fun c _ h => by
  unfold wst at h
  rw [Bool.and_eq_true] at h
  exact h.1)
theorem nSrc_le {S : Pic} : nSrc S ≤ 84 := cN_le 84
theorem isS_src {S : Pic} {dc c : Nat} (w : Wf S dc) (hdc : dc ≤ 12) (hc : c < 84) (h : isS S c = true) : ∃ e : Nat, e < dc ∧ src S e c ∧ fd S c = Pf S e 84 c := by
  have h1 : ¬ f6_at 12 (S 5) (S 11 c) = -1 := by
    unfold isS at h
    intro z
    rw [decide_eq_true z] at h
    exact absurd h (by decide)
  rcases w.2.1 c hc with q | ⟨d, hd, q, -⟩
  · rw [q, f6_at_neg] at h1
    exact absurd rfl h1
  · have e1 : f6_at 12 (S 5) (S 11 c) = S 5 d := by rw [q, f6_at_nI (by omega) (by omega)]
    rcases (w.1 d hd).2.1 with z | ⟨e, he, z⟩
    · rw [e1, z] at h1; exact absurd rfl h1
    · refine ⟨e, he, e1.trans z, ?_⟩
      unfold fd
      rw [e1, z, ix_nI (by omega)]
section WA
variable {S M Y : Pic} {dc gc : Nat}
theorem isSource_eq (h : Rel S (M 0) dc gc) (w : Wf S dc) {c : Nat} (hc : c < 84) : f7_isSource M (nI c) = some (if isS S c = true then 1 else 0) := by
  have hdc := h.1
  rw [f7_isSource, ck_cell hc, ck_cell hc, h.cell hc]
  unfold isS
  rcases h.plan w hc with q | ⟨d, hd1, hd2, q⟩
  · rw [q, if_pos rfl, f6_at_neg]; rfl
  · have o4 : f7_of M (nI d) 4 = some (S 5 d) := h.of (k := 4) hd1 (by omega)
    rw [q, if_neg (nI_ne_neg (by omega)), o4, ob1_some, f6_at_nI hd2 (by omega)]
    by_cases z : S 5 d = -1
    · rw [if_pos z, decide_eq_true z]; rfl
    · rw [if_neg z, decide_eq_false z]; rfl
theorem sourceCount_eq (S : Pic) : f5_sourceCount S = nI (nSrc S) := by
  have key : ∀ n i : Nat, i + n = 84 → f5_sourceCount_L4 S n (nI (cN (isS S) i)) (nI i) (fun x => x) = nI (cN (isS S) 84) := by
    intro n
    induction n with
    | zero => intro i hi; rw [f5_sourceCount_L4, show i = 84 by omega]
    | succ n ih =>
      intro i hi
      rw [f5_sourceCount_L4, if_neg (gq84 (by omega)), f6_at_nI (by omega) (by omega)]
      by_cases c : f6_at 12 (S 5) (S 11 i) = -1
      · rw [if_pos c, nI_1, ← cN_f (P := isS S) (n := i) (by unfold isS; rw [decide_eq_true c]; rfl)]
        exact ih (i + 1) (by omega)
      · rw [if_neg c, nI_1, nI_1, ← cN_t (P := isS S) (n := i) (by unfold isS; rw [decide_eq_false c]; rfl)]
        exact ih (i + 1) (by omega)
  exact key 84 0 rfl
theorem timesPlanned_eq (h : Rel S (M 0) dc gc) (p : Int32) : ∀ (n i : Nat) (acc : Int32), i + n = 84 → f7_servings_L11 p 0 n acc (nI i) M (fun a b => some (a, b)) = some (f5_timesPlanned_L4 S p n acc (nI i) (fun x => x), M) := by
  intro n
  induction n with
  | zero => intro i acc _; rfl
  | succ n ih =>
    intro i acc hi
    rw [f7_servings_L11, f5_timesPlanned_L4, if_neg (gq84 (by omega)), if_neg (gq84 (by omega)), ck_cell (by omega), h.cell (by omega), f6_at_nI (by omega) (by omega), if_pos rfl]
    simp only [bd]
    by_cases c : S 11 i = p
    · rw [if_pos c, if_pos c, nI_1]
      exact ih (i + 1) _ (by omega)
    · rw [if_neg c, if_neg c, nI_1, Int32.add_zero]
      exact ih (i + 1) _ (by omega)
theorem wastedServings_eq (w : Wf S dc) (hdc : dc ≤ 12) {e : Nat} (he : e < dc) (hY : ∀ c : Nat, c < 84 → isS S c = true → Y 1 c = fd S c) : f1_wastedServings Y S (nI e) = nI (cN (wstOf S e) 84) := by
  rw [f1_wastedServings, f6_at_nI (by omega) (by omega)]
  by_cases c0 : S 5 e = -1
  · rw [if_pos c0]
    refine congrArg nI (cN_no fun c hc => ?_).symm
    unfold wstOf
    by_cases q : S 11 c = nI e
    · have : isS S c = false := by
        unfold isS
        rw [q, f6_at_nI (by omega) (by omega), c0]; rfl
      unfold wst
      rw [this, Bool.false_and, Bool.and_false]
    · rw [decide_eq_false q, Bool.false_and]
  · rw [if_neg c0]
    have key : ∀ n i : Nat, i + n = 84 → f1_wastedServings_L19 Y S (nI e) n (nI (cN (wstOf S e) i)) (nI i) (fun x => x) = nI (cN (wstOf S e) 84) := by
      intro n
      induction n with
      | zero => intro i hi; rw [f1_wastedServings_L19, show i = 84 by omega]
      | succ n ih =>
        intro i hi
        rw [f1_wastedServings_L19, if_neg (gq84 (by omega)), f6_at_nI (show i < 84 by omega) (by omega), f6_at_nI (show i < 84 by omega) (by omega)]
        by_cases c : S 11 i = nI e
        · have hs : isS S i = true := by
            unfold isS
            rw [c, f6_at_nI (by omega) (by omega), decide_eq_false c0]; rfl
          rw [if_pos c, hY i (by omega) hs]
          by_cases c2 : fd S i = 0
          · rw [if_pos c2, nI_1, nI_1, ← cN_t (P := wstOf S e) (n := i) (by unfold wstOf wst; rw [decide_eq_true c, hs, decide_eq_true c2]; rfl)]
            exact ih (i + 1) (by omega)
          · rw [if_neg c2, nI_1, ← cN_f (P := wstOf S e) (n := i) (by unfold wstOf wst; rw [decide_eq_false c2, Bool.and_false, Bool.and_false])]
            exact ih (i + 1) (by omega)
        · rw [if_neg c, nI_1, ← cN_f (P := wstOf S e) (n := i) (by unfold wstOf; rw [decide_eq_false c, Bool.false_and])]
          exact ih (i + 1) (by omega)
    exact key 84 0 rfl
/-- the first k dishes together -/
def wstTo (S : Pic) : Nat → Nat → Bool
  | 0, _ => false
  | k + 1, c => wstTo S k c || wstOf S k c
theorem wstTo_iff {S : Pic} {c : Nat} : ∀ k : Nat, wstTo S k c = true ↔ ∃ d : Nat, d < k ∧ wstOf S d c = true := by
  intro k
  induction k with
  | zero => exact ⟨fun h => (by cases h), fun ⟨d, h, _⟩ => (by omega)⟩
  | succ k ih =>
    rw [wstTo, Bool.or_eq_true, ih]
    constructor
    · rintro (⟨d, h1, h2⟩ | h)
      · exact ⟨d, by omega, h2⟩
      · exact ⟨k, by omega, h⟩
    · rintro ⟨d, h1, h2⟩
      by_cases q : d = k
      · subst q; exact Or.inr h2
      · exact Or.inl ⟨d, by omega, h2⟩
theorem wstTo_add {k : Nat} (hk : k < 2 ^ 31) : cN (wstTo S k) 84 + cN (wstOf S k) 84 = cN (wstTo S (k + 1)) 84 := by
  rw [cN_or 84 (fun c _ h1 h2 => ?_)]
  · rfl
  · obtain ⟨d, h3, h4⟩ := (wstTo_iff k).mp h1
    unfold wstOf at h2 h4
    rw [Bool.and_eq_true] at h2 h4
    have := (nI_eq (by omega) (by omega)).mp ((of_decide_eq_true h4.1).symm.trans (of_decide_eq_true h2.1))
    omega
theorem wstTo_all (w : Wf S dc) : cN (wstTo S dc) 84 = nWst S := by
  refine cN_congr 84 fun c hc => ?_
  rw [Bool.eq_iff_iff, wstTo_iff]
  constructor
  · rintro ⟨d, h1, h2⟩
    unfold wstOf at h2
    rw [Bool.and_eq_true] at h2
    exact h2.2
  · intro h
    rcases w.2.1 c hc with q | ⟨d, hd, q, -⟩
    · unfold wst isS at h
      rw [q, f6_at_neg] at h
      exact absurd h (by simp)
    · refine ⟨d, hd, ?_⟩
      unfold wstOf
      rw [decide_eq_true q, h]; rfl
theorem found_fd (w : Wf S dc) (hdc : dc ≤ 12) {F : Nat → Int32} (hF : ∀ c e : Nat, c < 84 → e < dc → src S e c → F c = Pf S e 84 c) : ∀ c : Nat, c < 84 → isS S c = true → F c = fd S c := by
  intro c hc h
  obtain ⟨e, he, hs, hp⟩ := isS_src w hdc hc h
  rw [hp]; exact hF c e hc he hs
theorem wastedOf_eq (w : Wf S dc) (hdc : dc ≤ 12) (hz : S 0 0 = nI dc) (Y : Pic) {e : Nat} (he : e < dc) : ∃ Y' : Pic, f1_wastedOf Y S (nI e) = (nI (cN (wstOf S e) 84), Y') := by
  obtain ⟨r, Y', e1, -, k2⟩ := pairAll_eq w hdc hz Y
  rw [f1_wastedOf, e1]
  simp only [bd2, bd]
  rw [wastedServings_eq w hdc he (found_fd w hdc k2)]
  exact ⟨Y', rfl⟩
theorem wastedOfAll_eq (w : Wf S dc) (hdc : dc ≤ 12) (hz : S 0 0 = nI dc) (Y : Pic) : ∃ Y' : Pic, f1_wastedOfAll Y S = (nI (nWst S), Y') := by
  obtain ⟨r, Y', e1, -, k2⟩ := pairAll_eq w hdc hz Y
  have f1 : fuelN (0 : Int32) (nI dc) = dc := by rw [← nI_0, fuelN_nI (by omega) (by omega)]; rfl
  have key : ∀ n i : Nat, i + n = dc → f1_wastedOfAll_L10 S n (nI (cN (wstTo S i) 84)) (nI i) Y' (fun a b => (a, b)) = (nI (cN (wstTo S dc) 84), Y') := by
    intro n
    induction n with
    | zero => intro i hi; rw [f1_wastedOfAll_L10, show i = dc by omega]
    | succ n ih =>
      intro i hi
      rw [f1_wastedOfAll_L10, hz, if_neg (nI_ge (by omega) (by omega)), wastedServings_eq w hdc (show i < dc by omega) (found_fd w hdc k2)]
      simp only [bd]
      rw [nI_add, wstTo_add (by omega), nI_1]
      exact ih (i + 1) (by omega)
  rw [f1_wastedOfAll, e1, hz, f1]
  simp only [bd2]
  have k0 : cN (wstTo S 0) 84 = 0 := cN_no (fun c _ => rfl)
  have := key dc 0 (by omega)
  rw [k0, wstTo_all w] at this
  exact ⟨Y', this⟩
theorem servW_loop (h : Rel S (M 0) dc gc) (w : Wf S dc) {e : Nat} (hM : ∀ c : Nat, c < 84 → isS S c = true → M 9 c = fd S c) : ∀ n i : Nat, i + n = 84 → f7_servings_L11 (nI e) 1 n (nI (cN (wstOf S e) i)) (nI i) M (fun a b => some (a, b)) = some (nI (cN (wstOf S e) 84), M) := by
  intro n
  induction n with
  | zero => intro i hi; rw [f7_servings_L11, show i = 84 by omega]
  | succ n ih =>
    intro i hi
    rw [f7_servings_L11, if_neg (gq84 (by omega)), ck_cell (by omega), h.cell (by omega)]
    simp only [bd]
    rw [Int32.add_zero, nI_1, nI_1]
    by_cases c : S 11 i = nI e
    · rw [if_pos c, if_neg (by decide), isSource_eq h w (by omega), ob1_some, ck_nI (by omega) (by omega), ix_nI (by omega)]
      by_cases hs : isS S i = true
      · rw [if_pos hs, if_neg (by decide), hM i (by omega) hs]
        by_cases c2 : fd S i = 0
        · rw [if_pos c2, ← cN_t (P := wstOf S e) (n := i) (by unfold wstOf wst; rw [decide_eq_true c, hs, decide_eq_true c2]; rfl)]
          exact ih (i + 1) (by omega)
        · rw [if_neg c2, ← cN_f (P := wstOf S e) (n := i) (by unfold wstOf wst; rw [decide_eq_false c2, Bool.and_false, Bool.and_false])]
          exact ih (i + 1) (by omega)
      · rw [if_neg hs, if_pos rfl, ← cN_f (P := wstOf S e) (n := i) (by unfold wstOf wst; rw [Bool.not_eq_true] at hs; rw [hs, Bool.false_and, Bool.and_false])]
        exact ih (i + 1) (by omega)
    · rw [if_neg c, ← cN_f (P := wstOf S e) (n := i) (by unfold wstOf; rw [decide_eq_false c, Bool.false_and])]
      exact ih (i + 1) (by omega)
theorem servings0_eq (h : Rel S (M 0) dc gc) (w : Wf S dc) (p : Int32) : ∃ M' : Pic, f7_servings M p 0 = some (f5_timesPlanned S p, M') ∧ Fr M M' := by
  obtain ⟨r, M', e1, hf, -, -, -, -⟩ := match_eq h w
  rw [f7_servings, e1, ob2_some]
  exact ⟨M', timesPlanned_eq (hf.rel h) p 84 0 0 rfl, hf⟩
theorem servings1_eq (h : Rel S (M 0) dc gc) (w : Wf S dc) (e : Nat) : ∃ M' : Pic, f7_servings M (nI e) 1 = some (nI (cN (wstOf S e) 84), M') ∧ Fr M M' := by
  obtain ⟨r, M', e1, hf, -, k2, -, -⟩ := match_eq h w
  rw [f7_servings, e1, ob2_some]
  exact ⟨M', servW_loop (hf.rel h) w (found_fd w h.1 k2) 84 0 rfl, hf⟩
theorem src0_loop (h : Rel S (M 0) dc gc) (w : Wf S dc) : ∀ n i : Nat, i + n = 84 → f7_sources_L10 0 n (nI (cN (isS S) i)) (nI i) M (fun a b => some (a, b)) = some (nI (nSrc S), M) := by
  intro n
  induction n with
  | zero => intro i hi; rw [f7_sources_L10, show i = 84 by omega]; rfl
  | succ n ih =>
    intro i hi
    rw [f7_sources_L10, if_neg (gq84 (by omega)), isSource_eq h w (by omega), ob1_some]
    simp only [bd]
    rw [Int32.add_zero, nI_1, nI_1]
    by_cases hs : isS S i = true
    · rw [if_pos hs, if_neg (by decide), if_pos trivial, ← cN_t (P := isS S) (n := i) hs]
      exact ih (i + 1) (by omega)
    · rw [if_neg hs, if_pos rfl, ← cN_f (P := isS S) (n := i) (by rw [Bool.not_eq_true] at hs; exact hs)]
      exact ih (i + 1) (by omega)
theorem src1_loop (h : Rel S (M 0) dc gc) (w : Wf S dc) (hM : ∀ c : Nat, c < 84 → isS S c = true → M 9 c = fd S c) : ∀ n i : Nat, i + n = 84 → f7_sources_L10 1 n (nI (cN (wst S) i)) (nI i) M (fun a b => some (a, b)) = some (nI (nWst S), M) := by
  intro n
  induction n with
  | zero => intro i hi; rw [f7_sources_L10, show i = 84 by omega]; rfl
  | succ n ih =>
    intro i hi
    rw [f7_sources_L10, if_neg (gq84 (by omega)), isSource_eq h w (by omega), ob1_some]
    simp only [bd]
    rw [Int32.add_zero, nI_1, nI_1, ck_nI (by omega) (by omega), ix_nI (by omega)]
    by_cases hs : isS S i = true
    · rw [if_pos hs, if_neg (by decide), if_neg (by decide), hM i (by omega) hs]
      by_cases c2 : fd S i = 0
      · rw [if_pos c2, ← cN_t (P := wst S) (n := i) (by unfold wst; rw [hs, decide_eq_true c2]; rfl)]
        exact ih (i + 1) (by omega)
      · rw [if_neg c2, ← cN_f (P := wst S) (n := i) (by unfold wst; rw [decide_eq_false c2, Bool.and_false])]
        exact ih (i + 1) (by omega)
    · rw [if_neg hs, if_pos rfl, ← cN_f (P := wst S) (n := i) (by unfold wst; rw [Bool.not_eq_true] at hs; rw [hs, Bool.false_and])]
      exact ih (i + 1) (by omega)
theorem sources0_eq (h : Rel S (M 0) dc gc) (w : Wf S dc) : ∃ M' : Pic, f7_sources M 0 = some (nI (nSrc S), M') ∧ Fr M M' := by
  obtain ⟨r, M', e1, hf, -, -, -, -⟩ := match_eq h w
  rw [f7_sources, e1, ob2_some]
  exact ⟨M', src0_loop (hf.rel h) w 84 0 rfl, hf⟩
theorem sources1_eq (h : Rel S (M 0) dc gc) (w : Wf S dc) : ∃ M' : Pic, f7_sources M 1 = some (nI (nWst S), M') ∧ Fr M M' := by
  obtain ⟨r, M', e1, hf, -, k2, -, -⟩ := match_eq h w
  rw [f7_sources, e1, ob2_some]
  exact ⟨M', src1_loop (hf.rel h) w (found_fd w h.1 k2) 84 0 rfl, hf⟩
/-- where a serving comes from -/
theorem source_eq (Y : Pic) (h : Rel S (M 0) dc gc) (w : Wf S dc) (g : gd S dc) {day p : Nat} (hd : day < 28) (hp : p < 3) : ∃ (r : Int32) (Y' M' : Pic), f1_sourceDay Y S (nI (3 * day + p)) = (r, Y') ∧ f7_sourceNow M (nI day) (nI p) = some (r, M') ∧ Fr M M' := by
  have hdc := h.1
  have hz := h.2.2.1
  have hx : 3 * day + p < 84 := by omega
  obtain ⟨r, M', e1, hf, hr, -, k3, k4⟩ := match_eq h w
  have hr1 : r = 1 := hr.pos g
  have e3 : (3 : Int32) * nI day + nI p = nI (3 * day + p) := by rw [show (3 : Int32) = nI 3 from rfl, pk_mul, nI_add]
  rw [f1_sourceDay, f7_sourceNow, e1, ob2_some, e3, ck_nI hx (by omega), ix_nI (by omega), hr1, f6_at_nI hx (by omega)]
  simp only [bd]
  rw [if_neg (show ¬ (1 : Int32) = 0 by decide), f6_at_nI hx (by omega), forget_0 hx]
  have none_ : (∀ e : Nat, e < dc → lo S e → ¬ S 11 (3 * day + p) = nI e) → ∃ (r : Int32) (Y' M'' : Pic), (if (-1 : Int32) = -1 then ((-1 : Int32), f1_forget Y) else ((-1 : Int32) / 3, f1_forget Y)) = (r, Y') ∧ (if M' 8 (3 * day + p) = -1 then some ((-1 : Int32), M') else some (M' 8 (3 * day + p) / 3, M')) = some (r, M'') ∧ Fr M M'' := by
    intro hno
    rw [k4 _ hx hno, if_pos rfl, if_pos rfl]
    exact ⟨-1, _, M', rfl, rfl, hf⟩
  rcases h.plan w hx with q | ⟨d, hd1, hd2, q⟩
  · rw [if_pos q]
    exact none_ (fun e he _ z => by rw [q] at z; exact nI_ne_neg (by omega) z.symm)
  · rw [q, if_neg (nI_ne_neg (by omega))]
    by_cases hl : f5_isLeftover S (nI d) = 0
    · rw [if_pos hl]
      exact none_ (fun e he z z2 => by
        rw [q] at z2
        have := (nI_eq (by omega) (by omega)).mp z2
        rw [← this] at z; exact z hl)
    · obtain ⟨r', Y', e2, -, -, -, g4, -⟩ := pr_eq w hdc hd1 (f1_forget Y) (fun c hc _ => forget_1 hc)
      rw [if_neg hl, e2, k3 _ d hx hd1 hl q]
      simp only [bd2]
      rw [f6_at_nI hx (by omega), g4 _ hx q]
      by_cases c : nx S (Pf S d (3 * day + p)) d (3 * day + p) = -1
      · rw [if_pos c, if_pos c]
        exact ⟨_, _, _, rfl, rfl, hf⟩
      · rw [if_neg c, if_neg c]
        exact ⟨_, _, _, rfl, rfl, hf⟩
end WA
