/-- cost at a cell -/
def kc (S : Pic) (c : Nat) : Int32 := if S 11 c = -1 then 0 else f6_at 12 (S 2) (S 11 c)
def kn (S : Pic) (c : Nat) : Nat := ix (kc S c)
def sN (f : Nat → Nat) (lo : Nat) : Nat → Nat
  | 0 => 0
  | n + 1 => sN f lo n + f (lo + n)
theorem sN_le {f g : Nat → Nat} {lo : Nat} : ∀ n : Nat, (∀ c : Nat, lo ≤ c → c < lo + n → f c ≤ g c) → sN f lo n ≤ sN g lo n := by
  intro n
  induction n with
  | zero => intro _; exact Nat.le_refl _
  | succ n ih =>
    intro h
    have h1 := ih (fun c a b => h c a (by omega))
    have h2 := h (lo + n) (by omega) (by omega)
    rw [sN, sN]; omega
theorem sN_congr {f g : Nat → Nat} {lo n : Nat} (h : ∀ c : Nat, lo ≤ c → c < lo + n → f c = g c) : sN f lo n = sN g lo n := Nat.le_antisymm (sN_le n (fun c a b => Nat.le_of_eq (h c a b))) (sN_le n (fun c a b => Nat.le_of_eq (h c a b).symm))
theorem sN_bd {f : Nat → Nat} {lo : Nat} : ∀ n : Nat, (∀ c : Nat, lo ≤ c → c < lo + n → f c ≤ 30) → sN f lo n ≤ 30 * n := by
  intro n
  induction n with
  | zero => intro _; exact Nat.le_refl _
  | succ n ih =>
    intro h
    have h1 := ih (fun c a b => h c a (by omega))
    have h2 := h (lo + n) (by omega) (by omega)
    rw [sN]; omega
theorem sN_pt {f g : Nat → Nat} {x lo v : Nat} : ∀ n : Nat, (∀ c : Nat, lo ≤ c → c < lo + n → c ≠ x → g c = f c) → (lo ≤ x → x < lo + n → g x ≤ f x + v) → sN g lo n ≤ sN f lo n + v := by
  intro n
  induction n with
  | zero => intro _ _; exact Nat.le_add_right _ _
  | succ n ih =>
    intro h hx
    rw [sN, sN]
    by_cases q : lo + n = x
    · have h1 : sN g lo n = sN f lo n := sN_congr (fun c a b => h c a (by omega) (by omega))
      have h2 := hx (by omega) (by omega)
      rw [← q] at h2
      omega
    · have h1 := ih (fun c a b d => h c a (by omega) d) (fun a b => hx a (by omega))
      have h2 := h (lo + n) (by omega) (by omega) q
      omega
theorem sF_N {f : Nat → Int32} {g : Nat → Nat} {lo : Nat} : ∀ n : Nat, (∀ c : Nat, lo ≤ c → c < lo + n → f c = nI (g c)) → sF f lo n = nI (sN g lo n) := by
  intro n
  induction n with
  | zero => intro _; rfl
  | succ n ih =>
    intro h
    rw [sF, sN, ih (fun c a b => h c a (by omega)), h (lo + n) (by omega) (by omega), nI_add]
theorem mealCost_sum {S : Pic} {day : Nat} (hd : day < 28) : f5_mealCost S (nI day) = sF (kc S) (3 * day) 3 := by
  have key : ∀ (n p : Nat) (acc : Int32), p + n = 3 → f5_mealCost_L4 S (nI day) n acc (nI p) (fun x => x) = acc + sF (kc S) (3 * day + p) n := by
    intro n
    induction n with
    | zero => intro p acc _; rw [f5_mealCost_L4, sF, Int32.add_zero]
    | succ n ih =>
      intro p acc hp
      have hj : kc S (3 * day + p) = if S 11 (3 * day + p) = -1 then 0 else f6_at 12 (S 2) (S 11 (3 * day + p)) := rfl
      rw [f5_mealCost_L4, if_neg (gq3 (by omega)), f6_cellOf_nI, f6_at_nI (by omega) (by omega), sF_head, hj]
      simp only [bd]
      by_cases c : S 11 (3 * day + p) = -1
      · rw [if_pos c, if_pos c, nI_1, Int32.zero_add]
        exact ih (p + 1) acc (by omega)
      · rw [if_neg c, if_neg c, nI_1, ← Int32.add_assoc]
        exact ih (p + 1) _ (by omega)
  rw [f5_mealCost]
  exact (key 3 0 0 rfl).trans (Int32.zero_add _)
theorem weekCost_sum {S : Pic} {wk : Nat} (hw : wk < 4) : f5_weekCost S (nI wk) = sF (kc S) (21 * wk) 21 := by
  have e3 : nI wk * (7 : Int32) = nI (7 * wk) := by rw [show (7 : Int32) = nI 7 from rfl, pk_mul, Nat.mul_comm]
  have e2 : nI (7 * wk) + (7 : Int32) = nI (7 * wk + 7) := by rw [show (7 : Int32) = nI 7 from rfl, nI_add]
  have f1 : fuelN (nI (7 * wk)) (nI (7 * wk + 7)) = 7 := by rw [fuelN_nI (by omega) (by omega)]; omega
  have key : ∀ (n i : Nat) (acc : Int32), i + n = 7 → f5_weekCost_L10 S (nI (7 * wk)) n acc (nI (7 * wk + i)) (fun x => x) = acc + sF (kc S) (21 * wk + 3 * i) (3 * n) := by
    intro n
    induction n with
    | zero => intro i acc _; rw [f5_weekCost_L10, Nat.mul_zero, sF, Int32.add_zero]
    | succ n ih =>
      intro i acc hi
      rw [f5_weekCost_L10, e2, if_neg (nI_ge (by omega) (by omega)), mealCost_sum (by omega), show 3 * (n + 1) = 3 + 3 * n by omega, sF_add]
      simp only [bd]
      rw [nI_1, ← Int32.add_assoc, show 3 * (7 * wk + i) = 21 * wk + 3 * i by omega, show 21 * wk + 3 * i + 3 = 21 * wk + 3 * (i + 1) by omega, Nat.add_assoc]
      exact ih (i + 1) _ (by omega)
  rw [f5_weekCost, e3]
  simp only [bd]
  rw [e2, f1]
  exact (key 7 0 0 rfl).trans (Int32.zero_add _)
def WC (S : Pic) (wk : Nat) : Nat := sN (kn S) (21 * wk) 21
section BU
variable {S : Pic} {dc : Nat}
theorem kn_eq (w : Wf S dc) (hdc : dc ≤ 12) (hk : ∀ d : Nat, d < dc → ∃ a : Nat, a ≤ 30 ∧ S 2 d = nI a) {c : Nat} (hc : c < 84) : kc S c = nI (kn S c) ∧ kn S c ≤ 30 := by
  unfold kn kc
  rcases w.2.1 c hc with q | ⟨d, hd, q, -⟩
  · rw [if_pos q]; exact ⟨rfl, by decide⟩
  · obtain ⟨a, ha, e⟩ := hk d hd
    rw [q, if_neg (nI_ne_neg (by omega)), f6_at_nI (by omega) (by omega), e, ix_nI (by omega)]
    exact ⟨rfl, ha⟩
theorem wc_eq (w : Wf S dc) (hdc : dc ≤ 12) (hk : ∀ d : Nat, d < dc → ∃ a : Nat, a ≤ 30 ∧ S 2 d = nI a) {wk : Nat} (hw : wk < 4) : f5_weekCost S (nI wk) = nI (WC S wk) ∧ WC S wk ≤ 630 := by
  rw [weekCost_sum hw]
  exact ⟨sF_N 21 (fun c a b => (kn_eq w hdc hk (by omega)).1), sN_bd 21 (fun c a b => (kn_eq w hdc hk (by omega)).2)⟩
theorem above_bl (w : Wf S dc) (hdc : dc ≤ 12) (hk : ∀ d : Nat, d < dc → ∃ a : Nat, a ≤ 30 ∧ S 2 d = nI a) {b : Nat} (hb : b ≤ 999) (eb : S 10 2 = nI b) : bl (f5_isAboveBudget S) (∃ wk : Nat, wk < 4 ∧ b < WC S wk) := by
  have a10 : f6_at 3 (S 10) 2 = nI b := (f6_at_nI (n := 3) (j := 2) (f := S 10) (by omega) (by omega)).trans eb
  have key : ∀ n i : Nat, i + n = 4 → bl (f5_isAboveBudget_L2 S n (nI i) 0) (∃ wk : Nat, i ≤ wk ∧ wk < 4 ∧ b < WC S wk) := by
    intro n
    induction n with
    | zero => intro i hi; exact Or.inr ⟨rfl, fun ⟨wk, a, b, _⟩ => by omega⟩
    | succ n ih =>
      intro i hi
      have h1 := wc_eq w hdc hk (show i < 4 by omega)
      rw [f5_isAboveBudget_L2, if_neg (gq4 (by omega)), h1.1, a10]
      simp only [bd]
      by_cases c : WC S i ≤ b
      · rw [if_pos ((nI_leI (by omega) (by omega)).mpr c), nI_1]
        refine (ih (i + 1) (by omega)).iff ⟨fun ⟨wk, x, y, z⟩ => ⟨wk, by omega, y, z⟩, fun ⟨wk, x, y, z⟩ => ⟨wk, ?_, y, z⟩⟩
        have : ¬ wk = i := by rintro rfl; omega
        omega
      · rw [if_neg (fun z => c ((nI_leI (by omega) (by omega)).mp z))]
        exact Or.inl ⟨rfl, i, Nat.le_refl _, by omega, by omega⟩
  exact (key 4 0 rfl).iff ⟨fun ⟨wk, _, y, z⟩ => ⟨wk, y, z⟩, fun ⟨wk, y, z⟩ => ⟨wk, Nat.zero_le _, y, z⟩⟩
theorem bx_wc (w : Wf S dc) (hdc : dc ≤ 12) (x : Bx S dc) : ∃ b : Nat, b ≤ 999 ∧ S 10 2 = nI b ∧ ∀ wk : Nat, wk < 4 → WC S wk ≤ b := by
  obtain ⟨b1, b2, ⟨b, hb, eb⟩, b4⟩ := x
  refine ⟨b, hb, eb, fun wk hw => ?_⟩
  have := (above_bl w hdc b2 hb eb).is0 b4
  rcases Nat.lt_or_ge b (WC S wk) with q | q
  · exact absurd ⟨wk, hw, q⟩ this
  · exact q
/-- a plan that costs no more -/
theorem bx_less {S' : Pic} (w : Wf S dc) (w' : Wf S' dc) (hdc : dc ≤ 12) (x : Bx S dc) (h : ∀ k : Nat, k ≠ 11 → S' k = S k) (hle : ∀ c : Nat, c < 84 → kn S' c ≤ kn S c) : Bx S' dc := by
  obtain ⟨b, hb, eb, hw⟩ := bx_wc w hdc x
  obtain ⟨b1, b2, b3, b4⟩ := x
  have b2' : ∀ d : Nat, d < dc → ∃ a : Nat, a ≤ 30 ∧ S' 2 d = nI a := by rw [h 2 (by decide)]; exact b2
  refine ⟨by rw [h 5 (by decide), h 6 (by decide)]; exact b1, b2', by rw [h 10 (by decide)]; exact b3, ?_⟩
  refine (above_bl w' hdc b2' hb (by rw [h 10 (by decide)]; exact eb)).neg ?_
  rintro ⟨wk, y, z⟩
  have h1 := hw wk y
  have h2 : WC S' wk ≤ WC S wk := sN_le 21 (fun c a b => hle c (by omega))
  omega
theorem bx_put {x p e : Nat} (w : Wf S dc) (hdc : dc ≤ 12) (hx : x < 84) (he : e < dc) (hp : S 1 e = nI (x % 3)) (o : ok S dc x p e) (X : Bx S dc) : Bx (putS S x (nI e)) dc := by
  obtain ⟨b, hb, eb, hw⟩ := bx_wc w hdc X
  obtain ⟨b1, b2, b3, b4⟩ := X
  obtain ⟨a, ha, ea⟩ := b2 e he
  have b2' : ∀ d : Nat, d < dc → ∃ a : Nat, a ≤ 30 ∧ putS S x (nI e) 2 d = nI a := by rw [putS_ne (by decide)]; exact b2
  refine ⟨by rw [putS_ne (show (5 : Nat) ≠ 11 by decide), putS_ne (show (6 : Nat) ≠ 11 by decide)]; exact b1, b2', by rw [putS_ne (by decide)]; exact b3, ?_⟩
  refine (above_bl (putS_wf w he hp) hdc b2' hb (by rw [putS_ne (by decide)]; exact eb)).neg ?_
  rintro ⟨wk, y, z⟩
  have hne : ∀ c : Nat, c ≠ x → kn (putS S x (nI e)) c = kn S c := fun c hc => by
    unfold kn kc
    rw [putS_at hc, putS_ne (by decide)]
  have hx0 : kn S x = 0 := by
    unfold kn kc
    rw [if_pos o.1]; rfl
  have hxx : kn (putS S x (nI e)) x = a := by
    unfold kn kc
    rw [putS_x, putS_ne (by decide), if_neg (nI_ne_neg (by omega)), f6_at_nI (by omega) (by omega), ea, ix_nI (by omega)]
  by_cases q : x / 21 = wk
  · have h1 : WC (putS S x (nI e)) wk ≤ WC S wk + a := sN_pt (x := x) 21 (fun c _ _ hc => hne c hc) (fun _ _ => by rw [hxx, hx0]; omega)
    have h2 := wc_eq w hdc b2 y
    have h3 := o.2.2.2
    rw [q, h2.1, ea, nI_add, eb] at h3
    have h4 := (nI_leI (by omega) (by omega)).mp h3
    omega
  · have h1 : WC (putS S x (nI e)) wk = WC S wk := sN_congr (fun c h1 h2 => hne c (by omega))
    have h2 := hw wk y
    omega
theorem put_sr {z : Nat → Int32} {gc x p e : Nat} (h : SR S z dc gc) (hx : x < 84) (he : e < dc) (hxp : x % 3 = p) (o : ok S dc x p e) : SR (putS S x (nI e)) (upd z (89 + x) (nI e)) dc gc := by
  obtain ⟨h1, h2, h3, h4⟩ := h
  have hp : S 1 e = nI (x % 3) := by rw [hxp]; exact o.2.1
  exact ⟨putS_rel h1 hx, putS_wf h2 he hp, o.2.2.1, bx_put h2 h1.1 hx he hp o h4⟩
theorem drop_sr {z : Nat → Int32} {gc x : Nat} (h : SR S z dc gc) (hx : x < 84) (g : gd (putS S x (-1)) dc) : SR (putS S x (-1)) (upd z (89 + x) (-1)) dc gc := by
  obtain ⟨h1, h2, h3, h4⟩ := h
  refine ⟨putS_rel h1 hx, putS_wf0 h2, g, bx_less h2 (putS_wf0 h2) h1.1 h4 (fun k hk => putS_ne hk) (fun c hc => ?_)⟩
  by_cases y : c = x
  · unfold kn kc
    rw [y, putS_x, if_pos rfl]
    exact Nat.zero_le _
  · unfold kn kc
    rw [putS_at y, putS_ne (by decide)]
    exact Nat.le_refl _
end BU
