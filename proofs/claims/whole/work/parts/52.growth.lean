/-- a sum over n cells from lo on -/
def sF (f : Nat → Int32) (lo : Nat) : Nat → Int32
  | 0 => 0
  | n + 1 => sF f lo n + f (lo + n)
theorem sF_add {f : Nat → Int32} {lo a : Nat} : ∀ b : Nat, sF f lo (a + b) = sF f lo a + sF f (lo + a) b := by
  intro b
  induction b with
  | zero => rw [sF]; exact (Int32.add_zero _).symm
  | succ b ih =>
    show sF f lo (a + b) + f (lo + (a + b)) = _
    rw [ih, sF, Int32.add_assoc, Nat.add_assoc]
theorem sF_head {f : Nat → Int32} {lo n : Nat} : sF f lo (n + 1) = f lo + sF f (lo + 1) n := by
  rw [Nat.add_comm n 1, sF_add (f := f) (lo := lo) (a := 1) n]
  show (0 : Int32) + f (lo + 0) + _ = _
  rw [Int32.zero_add, Nat.add_zero]
theorem sF_congr {f g : Nat → Int32} {lo : Nat} : ∀ n : Nat, (∀ c : Nat, lo ≤ c → c < lo + n → f c = g c) → sF f lo n = sF g lo n := by
  intro n
  induction n with
  | zero => intro _; rfl
  | succ n ih =>
    intro h
    rw [sF, sF, ih (fun c a b => h c a (by omega)), h (lo + n) (by omega) (by omega)]
theorem sF_zero {f : Nat → Int32} {lo n : Nat} (h : ∀ c : Nat, lo ≤ c → c < lo + n → f c = 0) : sF f lo n = 0 := by
  rw [sF_congr (g := fun _ => 0) n h]
  clear h
  induction n with
  | zero => rfl
  | succ n ih => rw [sF, ih]; rfl
theorem add4 (a b c d : Int32) : a + b + (c + d) = a + c + (b + d) := by
  rw [Int32.add_assoc, Int32.add_assoc, ← Int32.add_assoc b, Int32.add_comm b c, Int32.add_assoc]
theorem add_back (a b : Int32) : a = b + (a - b) := by rw [Int32.add_comm, Int32.sub_add_cancel]
theorem sF_plus {f g : Nat → Int32} {lo : Nat} : ∀ n : Nat, sF (fun c => f c + g c) lo n = sF f lo n + sF g lo n := by
  intro n
  induction n with
  | zero => rfl
  | succ n ih => rw [sF, sF, sF, ih, add4]
/-- one place alone -/
theorem sF_pt {v : Int32} {x lo : Nat} : ∀ n : Nat, sF (fun c => if c = x then v else 0) lo n = if lo ≤ x ∧ x < lo + n then v else 0 := by
  intro n
  induction n with
  | zero => rw [sF, if_neg (by omega)]
  | succ n ih =>
    rw [sF, ih]
    by_cases q : lo + n = x
    · rw [if_neg (by omega), if_pos q, if_pos (by omega), Int32.zero_add]
    · rw [if_neg q, Int32.add_zero]
      by_cases y : lo ≤ x ∧ x < lo + n
      · rw [if_pos y, if_pos (by omega)]
      · rw [if_neg y, if_neg (by omega)]
theorem sF_chg {f g : Nat → Int32} {v : Int32} {x lo n : Nat} (hn : ∀ c : Nat, c ≠ x → g c = f c) (hx : g x = f x + v) : sF g lo n = sF f lo n + if lo ≤ x ∧ x < lo + n then v else 0 := by
  rw [← sF_pt, ← sF_plus]
  refine sF_congr n fun c _ _ => ?_
  by_cases q : c = x
  · show g c = f c + if c = x then v else 0
    rw [if_pos q, q, hx]
  · show g c = f c + if c = x then v else 0
    rw [if_neg q, Int32.add_zero, hn c q]
/-- joy at a cell -/
def jc (S : Pic) (c : Nat) : Int32 := if S 11 c = -1 then 0 else f2_joyOfDish S (nI (c / 3)) (S 11 c)
theorem joyOfMeal_sum {S : Pic} {day : Nat} (hd : day < 28) : f2_joyOfMeal S (nI day) = sF (jc S) (3 * day) 3 := by
  have key : ∀ (n p : Nat) (acc : Int32), p + n = 3 → f2_joyOfMeal_L4 S (nI day) n acc (nI p) (fun x => x) = acc + sF (jc S) (3 * day + p) n := by
    intro n
    induction n with
    | zero => intro p acc _; rw [f2_joyOfMeal_L4, sF, Int32.add_zero]
    | succ n ih =>
      intro p acc hp
      have hj : jc S (3 * day + p) = if S 11 (3 * day + p) = -1 then 0 else f2_joyOfDish S (nI day) (S 11 (3 * day + p)) := by
        unfold jc
        rw [show (3 * day + p) / 3 = day by omega]
      rw [f2_joyOfMeal_L4, if_neg (gq3 (by omega)), f6_cellOf_nI, f6_at_nI (by omega) (by omega), sF_head, hj]
      simp only [bd]
      by_cases c : S 11 (3 * day + p) = -1
      · rw [if_pos c, if_pos c, nI_1, Int32.zero_add]
        exact ih (p + 1) acc (by omega)
      · rw [if_neg c, if_neg c, nI_1, ← Int32.add_assoc]
        exact ih (p + 1) _ (by omega)
  rw [f2_joyOfMeal]
  exact (key 3 0 0 rfl).trans (Int32.zero_add _)
theorem joyOfPlan_sum {S : Pic} : f2_joyOfPlan S = sF (jc S) 0 84 := by
  have key : ∀ (n i : Nat) (acc : Int32), i + n = 28 → f2_joyOfPlan_L4 S n acc (nI i) (fun x => x) = acc + sF (jc S) (3 * i) (3 * n) := by
    intro n
    induction n with
    | zero => intro i acc _; rw [f2_joyOfPlan_L4, Nat.mul_zero, sF, Int32.add_zero]
    | succ n ih =>
      intro i acc hi
      rw [f2_joyOfPlan_L4, if_neg (gq28 (by omega)), joyOfMeal_sum (by omega), show 3 * (n + 1) = 3 + 3 * n by omega, sF_add]
      simp only [bd]
      rw [nI_1, ← Int32.add_assoc, show 3 * i + 3 = 3 * (i + 1) by omega]
      exact ih (i + 1) _ (by omega)
  rw [f2_joyOfPlan]
  exact (key 28 0 0 rfl).trans (Int32.zero_add _)
/-- whether a dish of the taste stands at a cell -/
def st (S : Pic) (v : Int32) (c : Nat) : Int32 := if S 11 c = -1 then 0 else if f6_at 12 (S 3) (S 11 c) = v then 1 else 0
theorem same_sum {S : Pic} {day d m : Nat} (hday : day < 29) (hd : d < 12) (hm : m ≤ 10) (em : S 10 1 = nI m) : f2_sameTasteBefore S (nI day) (nI d) = sF (st S (S 3 d)) (3 * (day - m)) (3 * day - 3 * (day - m)) := by
  have a1 : f6_at 3 (S 10) 1 = nI m := (f6_at_nI (n := 3) (j := 1) (f := S 10) (by omega) (by omega)).trans em
  have key : ∀ (n i : Nat) (acc : Int32), i + n = 3 * day → f2_sameTasteBefore_L49 S (S 3 d) (nI (3 * day)) n acc (nI i) (fun x => x) = acc + sF (st S (S 3 d)) i n := by
    intro n
    induction n with
    | zero => intro i acc _; rw [f2_sameTasteBefore_L49, sF, Int32.add_zero]
    | succ n ih =>
      intro i acc hi
      have hs : st S (S 3 d) i = if S 11 i = -1 then 0 else if f6_at 12 (S 3) (S 11 i) = S 3 d then 1 else 0 := rfl
      rw [f2_sameTasteBefore_L49, if_neg (nI_ge (by omega) (by omega)), f6_at_nI (show i < 84 by omega) (by omega), sF_head, hs]
      simp only [bd]
      by_cases c : S 11 i = -1
      · rw [if_pos c, if_pos c, nI_1, Int32.zero_add]
        exact ih (i + 1) acc (by omega)
      · rw [if_neg c, if_neg c]
        by_cases c2 : f6_at 12 (S 3) (S 11 i) = S 3 d
        · rw [if_pos c2, if_pos c2, nI_1, ← Int32.add_assoc]
          exact ih (i + 1) _ (by omega)
        · rw [if_neg c2, if_neg c2, nI_1, Int32.zero_add]
          exact ih (i + 1) acc (by omega)
  rw [f2_sameTasteBefore, a1, sub_max (by omega) (by omega), show (0 : Int32) = nI 0 from rfl, f6_cellOf_nI, f6_cellOf_nI, ← show (0 : Int32) = nI 0 from rfl, f6_at_nI hd (by omega)]
  simp only [bd, Nat.add_zero]
  rw [fuelN_nI (by omega) (by omega)]
  exact (key _ _ 0 (by omega)).trans (Int32.zero_add _)
/-- what a dish more before it costs the dish at a cell -/
def gr (S : Pic) (v : Int32) (c : Nat) : Int32 := if S 11 c = -1 then 0 else if f6_at 12 (S 3) (S 11 c) = v then f2_joyLeft S (S 11 c) (f2_sameTasteBefore S (nI (c / 3)) (S 11 c) + 1) - f2_joyLeft S (S 11 c) (f2_sameTasteBefore S (nI (c / 3)) (S 11 c)) else 0
theorem min28 {k : Nat} (hk : k < 2 ^ 31) : (if nI k < 28 then nI k else (28 : Int32)) = nI (min k 28) := by
  by_cases c : k < 28
  · rw [if_pos (show nI k < 28 from nI_lt (b := 28) c (by omega)), Nat.min_eq_left (by omega)]
  · rw [if_neg (show ¬ nI k < 28 from nI_nlt (b := 28) (by omega) hk), Nat.min_eq_right (by omega)]
    rfl
theorem growth_sum {S : Pic} {day e m : Nat} (hday : day < 28) (he : e < 12) (hm : m ≤ 10) (em : S 10 1 = nI m) : f2_growth S (nI day) (nI e) = f2_joyOfDish S (nI day) (nI e) + sF (gr S (S 3 e)) (3 * (day + 1)) (3 * min (day + m + 1) 28 - 3 * (day + 1)) := by
  have a1 : f6_at 3 (S 10) 1 = nI m := (f6_at_nI (n := 3) (j := 1) (f := S 10) (by omega) (by omega)).trans em
  obtain ⟨hi, ehi⟩ : ∃ hi : Nat, min (day + m + 1) 28 = hi := ⟨_, rfl⟩
  have hmin : hi ≤ 28 := by rw [← ehi]; exact Nat.min_le_right _ _
  have hmin2 : day + 1 ≤ hi := by rw [← ehi]; exact Nat.le_min.mpr ⟨by omega, by omega⟩
  have key : ∀ (n i : Nat) (acc : Int32), i + n = 3 * hi → f2_growth_L59 S (S 3 e) (nI (3 * hi)) n acc (nI i) (fun x => x) = acc + sF (gr S (S 3 e)) i n := by
    intro n
    induction n with
    | zero => intro i acc _; rw [f2_growth_L59, sF, Int32.add_zero]
    | succ n ih =>
      intro i acc hi2
      have hs : gr S (S 3 e) i = if S 11 i = -1 then 0 else if f6_at 12 (S 3) (S 11 i) = S 3 e then f2_joyLeft S (S 11 i) (f2_sameTasteBefore S (nI (i / 3)) (S 11 i) + 1) - f2_joyLeft S (S 11 i) (f2_sameTasteBefore S (nI (i / 3)) (S 11 i)) else 0 := rfl
      rw [f2_growth_L59, if_neg (nI_ge (by omega) (by omega)), f6_at_nI (show i < 84 by omega) (by omega), sF_head, hs, cell3 (by omega)]
      simp only [bd]
      by_cases c : S 11 i = -1
      · rw [if_pos c, if_pos c, nI_1, Int32.zero_add]
        exact ih (i + 1) acc (by omega)
      · rw [if_neg c, if_neg c]
        by_cases c2 : f6_at 12 (S 3) (S 11 i) = S 3 e
        · rw [if_pos c2, if_pos c2, nI_1, ← Int32.add_assoc]
          exact ih (i + 1) _ (by omega)
        · rw [if_neg c2, if_neg c2, nI_1, Int32.zero_add]
          exact ih (i + 1) acc (by omega)
  rw [f2_growth, a1, nI_1 day, nI_add day m, nI_1 (day + m), min28 (by omega), ehi, show (0 : Int32) = nI 0 from rfl, f6_cellOf_nI, f6_cellOf_nI, f6_at_nI he (by omega)]
  simp only [bd, Nat.add_zero]
  rw [fuelN_nI (by omega) (by omega)]
  exact key _ _ _ (by omega)
section GAIN
variable {S M : Pic} {dc gc day p e m : Nat}
theorem same_put (hday : day < 28) (hp : p < 3) (hx : S 11 (3 * day + p) = -1) (he : e < 12) (hm : m ≤ 10) (em : S 10 1 = nI m) {day' d : Nat} (hd' : day' < 29) (hd : d < 12) : f2_sameTasteBefore (putS S (3 * day + p) (nI e)) (nI day') (nI d) = f2_sameTasteBefore S (nI day') (nI d) + if (day < day' ∧ day' ≤ day + m) ∧ S 3 e = S 3 d then 1 else 0 := by
  have em' : putS S (3 * day + p) (nI e) 10 1 = nI m := by rw [putS_ne (by decide)]; exact em
  rw [same_sum hd' hd hm em', same_sum hd' hd hm em, putS_ne (show (3 : Nat) ≠ 11 by decide)]
  rw [sF_chg (f := st S (S 3 d)) (v := if S 3 e = S 3 d then 1 else 0) (x := 3 * day + p)]
  · by_cases c : day < day' ∧ day' ≤ day + m
    · rw [if_pos (show 3 * (day' - m) ≤ 3 * day + p ∧ 3 * day + p < 3 * (day' - m) + (3 * day' - 3 * (day' - m)) by omega)]
      by_cases c2 : S 3 e = S 3 d
      · rw [if_pos c2, if_pos ⟨c, c2⟩]
      · rw [if_neg c2, if_neg (fun z => c2 z.2)]
    · rw [if_neg (show ¬ (3 * (day' - m) ≤ 3 * day + p ∧ 3 * day + p < 3 * (day' - m) + (3 * day' - 3 * (day' - m))) by omega), if_neg (fun z => c z.1)]
  · intro c hc
    unfold st
    rw [putS_at hc, putS_ne (by decide)]
  · unfold st
    rw [putS_x, putS_ne (by decide), if_neg (nI_ne_neg (by omega)), f6_at_nI he (by omega), hx, if_pos rfl, Int32.zero_add]
theorem joyLeft_put {x : Nat} {v a k : Int32} : f2_joyLeft (putS S x v) a k = f2_joyLeft S a k := rfl
theorem joy_put (hday : day < 28) (hp : p < 3) (hx : S 11 (3 * day + p) = -1) (he : e < 12) (hm : m ≤ 10) (em : S 10 1 = nI m) {day' d : Nat} (hd' : day' < 29) (hd : d < 12) : f2_joyOfDish (putS S (3 * day + p) (nI e)) (nI day') (nI d) = f2_joyLeft S (nI d) (f2_sameTasteBefore S (nI day') (nI d) + if (day < day' ∧ day' ≤ day + m) ∧ S 3 e = S 3 d then 1 else 0) := by
  rw [f2_joyOfDish]
  simp only [bd]
  rw [joyLeft_put, same_put hday hp hx he hm em hd' hd]
theorem plan_put (w : Wf S dc) (hdc : dc ≤ 12) (hday : day < 28) (hp : p < 3) (hx : S 11 (3 * day + p) = -1) (he : e < 12) : f2_joyOfPlan (putS S (3 * day + p) (nI e)) = f2_joyOfPlan S + f2_growth S (nI day) (nI e) := by
  obtain ⟨m, hm, em⟩ := w.2.2
  rw [growth_sum hday he hm em, joyOfPlan_sum, joyOfPlan_sum]
  obtain ⟨hi, ehi⟩ : ∃ hi : Nat, min (day + m + 1) 28 = hi := ⟨_, rfl⟩
  have hmin : hi ≤ 28 ∧ day + 1 ≤ hi ∧ hi ≤ day + m + 1 ∧ (hi = 28 ∨ hi = day + m + 1) := by
    rw [← ehi]
    refine ⟨Nat.min_le_right _ _, Nat.le_min.mpr ⟨by omega, by omega⟩, Nat.min_le_left _ _, ?_⟩
    rcases Nat.le_total (day + m + 1) 28 with q | q
    · exact Or.inr (Nat.min_eq_left q)
    · exact Or.inl (Nat.min_eq_right q)
  rw [ehi]
  obtain ⟨J, eJ⟩ : ∃ J : Int32, f2_joyOfDish S (nI day) (nI e) = J := ⟨_, rfl⟩
  rw [eJ]
  have hD : ∀ c : Nat, 0 ≤ c → c < 0 + 84 → jc (putS S (3 * day + p) (nI e)) c = jc S c + if c = 3 * day + p then J else if 3 * (day + 1) ≤ c ∧ c < 3 * hi then gr S (S 3 e) c else 0 := by
    intro c _ hc
    by_cases y : c = 3 * day + p
    · rw [if_pos y, y]
      unfold jc
      rw [hx, if_pos rfl, putS_x, if_neg (nI_ne_neg (by omega)), show (3 * day + p) / 3 = day by omega, joy_put hday hp hx he hm em (by omega) he, if_neg (by omega), Int32.add_zero, Int32.zero_add, ← eJ]
      rfl
    · rw [if_neg y]
      unfold jc
      rw [putS_at y]
      rcases w.2.1 c (by omega) with q | ⟨d, hd, q, -⟩
      · rw [if_pos q, if_pos q, show gr S (S 3 e) c = 0 by unfold gr; rw [if_pos q]]
        split <;> rfl
      · have hne : ¬ nI d = -1 := nI_ne_neg (by omega)
        have hg : gr S (S 3 e) c = if S 3 d = S 3 e then f2_joyLeft S (nI d) (f2_sameTasteBefore S (nI (c / 3)) (nI d) + 1) - f2_joyLeft S (nI d) (f2_sameTasteBefore S (nI (c / 3)) (nI d)) else 0 := by
          unfold gr
          rw [q, if_neg hne, f6_at_nI (by omega) (by omega)]
        have hj : f2_joyOfDish S (nI (c / 3)) (nI d) = f2_joyLeft S (nI d) (f2_sameTasteBefore S (nI (c / 3)) (nI d)) := rfl
        rw [q, if_neg hne, if_neg hne, joy_put hday hp hx he hm em (by omega) (by omega), hg, hj]
        by_cases c1 : 3 * (day + 1) ≤ c ∧ c < 3 * hi
        · rw [if_pos c1]
          by_cases c2 : S 3 d = S 3 e
          · rw [if_pos c2, if_pos ⟨by omega, c2.symm⟩]; exact add_back _ _
          · rw [if_neg c2, if_neg (fun z => c2 z.2.symm), Int32.add_zero, Int32.add_zero]
        · rw [if_neg c1, if_neg (fun z => c1 (by omega)), Int32.add_zero, Int32.add_zero]
  rw [sF_congr 84 hD, sF_plus]
  refine congrArg (fun z => sF (jc S) 0 84 + z) ?_
  have e84 : 84 = 3 * (day + 1) + ((3 * hi - 3 * (day + 1)) + (84 - 3 * hi)) := by omega
  rw [e84, sF_add, sF_add, Nat.zero_add]
  rw [sF_congr (g := fun c => if c = 3 * day + p then J else 0) (3 * (day + 1)) (fun c _ h2 => by
    by_cases y : c = 3 * day + p
    · rw [if_pos y, if_pos y]
    · rw [if_neg y, if_neg y, if_neg (by omega)]), sF_pt, if_pos (by omega)]
  rw [sF_congr (g := gr S (S 3 e)) (3 * hi - 3 * (day + 1)) (fun c h1 h2 => by rw [if_neg (by omega), if_pos (by omega)])]
  rw [sF_zero (lo := 3 * (day + 1) + (3 * hi - 3 * (day + 1))) (n := 84 - 3 * hi) (fun c h1 h2 => by rw [if_neg (by omega), if_neg (by omega)]), Int32.add_zero]
theorem gain_eq (h : Rel S (M 0) dc gc) (w : Wf S dc) (hday : day < 28) (hp : p < 3) (he : e < dc) (h1 : S 1 e = nI p) (hx : S 11 (3 * day + p) = -1) : ∃ M' : Pic, f7_gainNow M (nI day) (nI e) = some (f2_growth S (nI day) (nI e), M') ∧ Fr M M' := by
  have hdc := h.1
  have hx84 : 3 * day + p < 84 := by omega
  have o0 : f7_of M (nI e) 0 = some (nI p) := by rw [← h1]; exact h.of (k := 0) he (by omega)
  have hw' : Wf (putS S (3 * day + p) (nI e)) dc := putS_wf w he (by rw [h1, show (3 * day + p) % 3 = p by omega])
  have hrel : Rel (putS S (3 * day + p) (nI e)) ((pset M 0 (upd (M 0) (89 + (3 * day + p)) (nI e))) 0) dc gc := by rw [pset_same]; exact putS_rel h hx84
  have o0' : f7_of (pset M 0 (upd (M 0) (89 + (3 * day + p)) (nI e))) (nI e) 0 = some (nI p) := by
    rw [← h1, ← putS_ne (S := S) (x := 3 * day + p) (v := nI e) (show (1 : Nat) ≠ 11 by decide)]
    exact hrel.of (k := 0) he (by omega)
  rw [f7_gainNow, joyOfAll_eq h w, ob1_some, o0, ob1_some, f7_put_nI hx84, ob1_some, joyOfAll_eq hrel hw', ob1_some, o0', ob1_some, f7_put_nI hx84, ob1_some, plan_put w hdc hday hp hx (by omega), Int32.add_comm, Int32.add_sub_cancel]
  refine ⟨_, rfl, fun j a b => ?_⟩
  by_cases q : j = 0
  · subst q
    rw [pset_same, pset_same]
    funext i
    by_cases y : i = 89 + (3 * day + p)
    · rw [y, upd_same, ← hx]
      exact (h.2.2.2.2.2.2.2.2.2 _ hx84).symm
    · rw [upd_ne y, upd_ne y]
  · rw [pset_ne q, pset_ne q]
theorem bd_loop (w : Wf S dc) (g : gd S dc) (hp : p < 3) (he : e < dc) (h1 : S 1 e = nI p) : ∀ (n i : Nat) (Y M : Pic) (b ms : Int32), i + n = 28 → Rel S (M 0) dc gc → ∃ (r : Int32) (Y' M' : Pic), f2_bestDayOf_L20 (nI e) (nI p) n b ms (nI i) Y S (fun a b c => (a, b, c)) = (r, Y', S) ∧ f7_dayFor_L7 (nI e) n b ms (nI i) M (fun a b => some (a, b)) = some (r, M') ∧ Fr M M' := by
  intro n
  induction n with
  | zero => intro i Y M b ms _ _; exact ⟨b, Y, M, rfl, rfl, Fr.rfl'⟩
  | succ n ih =>
    intro i Y M b ms hi h
    rw [f2_bestDayOf_L20, f7_dayFor_L7, if_neg (gq28 (by omega)), if_neg (gq28 (by omega))]
    obtain ⟨r, Y1, M1, x1, x2, hf, ho⟩ := canServe_eq Y h w g (show i < 28 by omega) he hp h1
    rw [x1, x2, ob2_some]
    simp only [bd3]
    have go : ∀ (b' ms' : Int32) (M2 : Pic), Fr M M2 → ∃ (r : Int32) (Y' M' : Pic), f2_bestDayOf_L20 (nI e) (nI p) n b' ms' (nI i + 1) Y1 S (fun a b c => (a, b, c)) = (r, Y', S) ∧ f7_dayFor_L7 (nI e) n b' ms' (nI i + 1) M2 (fun a b => some (a, b)) = some (r, M') ∧ Fr M M' := by
      intro b' ms' M2 hf2
      rw [nI_1]
      obtain ⟨r', Y2, M3, y1, y2, hf3⟩ := ih (i + 1) Y1 M2 b' ms' (by omega) (hf2.rel h)
      exact ⟨r', Y2, M3, y1, y2, hf2.trans hf3⟩
    by_cases c : r = 0
    · obtain ⟨M2, z1, z2⟩ := gain_eq (hf.rel h) w (show i < 28 by omega) hp he h1 (ho c).1
      rw [if_pos c, if_pos c, if_neg (by decide), z1, ob2_some]
      simp only [bd]
      by_cases c1 : b = -1
      · rw [if_pos c1, if_pos c1]
        exact go _ _ M2 (hf.trans z2)
      · rw [if_neg c1, if_neg c1]
        by_cases c2 : f2_growth S (nI i) (nI e) ≤ ms
        · rw [if_pos c2, if_pos c2]
          exact go _ _ M2 (hf.trans z2)
        · rw [if_neg c2, if_neg c2]
          exact go _ _ M2 (hf.trans z2)
    · rw [if_neg c, if_neg c, if_pos rfl]
      exact go _ _ M1 hf
theorem dayFor_eq (Y : Pic) (h : Rel S (M 0) dc gc) (w : Wf S dc) (g : gd S dc) (he : e < dc) : ∃ (r : Int32) (Y' M' : Pic), f2_bestDayOf Y S (nI e) = (r, Y', S) ∧ f7_dayFor M (nI e) = some (r, M') ∧ Fr M M' := by
  have hdc := h.1
  obtain ⟨⟨p, hp, h1⟩, -⟩ := w.1 e he
  rw [f2_bestDayOf, f6_at_nI (by omega) (by omega), h1, bd_eq]
  exact bd_loop w g hp he h1 28 0 Y M (-1) 0 rfl h
end GAIN
