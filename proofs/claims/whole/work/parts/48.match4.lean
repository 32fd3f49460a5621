/-! by rewriting, where unfolding would send the kernel into a loop with a written number of turns -/
theorem bd_eq {α β : Type} {x : α} {f : α → β} : bd x f = f x := by
  have h : ∀ y : α, y = x → bd y f = f y := fun _ _ => rfl
  exact h x rfl
theorem bd2_eq {α β γ : Type} {a : α} {b : β} {f : α → β → γ} : bd2 (a, b) f = f a b := by
  have h : ∀ y : α, y = a → bd2 (y, b) f = f y b := fun _ _ => rfl
  exact h a rfl
theorem bd3_eq {α β γ δ : Type} {a : α} {b : β} {c : γ} {f : α → β → γ → δ} : bd3 (a, b, c) f = f a b c := by
  have h : ∀ y : α, y = a → bd3 (y, b, c) f = f y b c := fun _ _ => rfl
  exact h a rfl
theorem f6_put_neg {n : Nat} {f : Nat → Int32} {v : Int32} : f6_put n f (-1) v = f := by
  unfold f6_put
  rw [if_pos (by decide)]
/-- an answer of a test -/
def bl (r : Int32) (P : Prop) : Prop := (r = 1 ∧ P) ∨ (r = 0 ∧ ¬ P)
theorem bl.iff {r : Int32} {P Q : Prop} (h : bl r P) (e : P ↔ Q) : bl r Q := by
  rcases h with ⟨a, b⟩ | ⟨a, b⟩
  · exact Or.inl ⟨a, e.mp b⟩
  · exact Or.inr ⟨a, fun q => b (e.mpr q)⟩
theorem bl.one {r r' : Int32} {P : Prop} (h : bl r P) (h' : bl r' P) : r = r' := by
  rcases h with ⟨a, b⟩ | ⟨a, b⟩
  · rcases h' with ⟨a', b'⟩ | ⟨a', b'⟩
    · rw [a, a']
    · exact absurd b b'
  · rcases h' with ⟨a', b'⟩ | ⟨a', b'⟩
    · exact absurd b' b
    · rw [a, a']
theorem bl.pos {r : Int32} {P : Prop} (h : bl r P) (p : P) : r = 1 := by
  rcases h with ⟨a, b⟩ | ⟨a, b⟩
  · exact a
  · exact absurd p b
theorem bl.neg {r : Int32} {P : Prop} (h : bl r P) (p : ¬ P) : r = 0 := by
  rcases h with ⟨a, b⟩ | ⟨a, b⟩
  · exact absurd b p
  · exact a
theorem bl.ne0 {r : Int32} {P : Prop} (h : bl r P) (p : ¬ r = 0) : P := by
  rcases h with ⟨a, b⟩ | ⟨a, b⟩
  · exact b
  · exact absurd a p
theorem bl.is0 {r : Int32} {P : Prop} (h : bl r P) (p : r = 0) : ¬ P := by
  rcases h with ⟨a, b⟩ | ⟨a, b⟩
  · rw [a] at p; exact absurd p (by decide)
  · exact b
/-- cell c holds a source of e -/
def src (S : Pic) (e c : Nat) : Prop := f6_at 12 (S 5) (S 11 c) = nI e
def lo (S : Pic) (e : Nat) : Prop := ¬ f5_isLeftover S (nI e) = 0
def gd (S : Pic) (dc : Nat) : Prop := ∀ e : Nat, e < dc → lo S e → snd S e
theorem isLo_loop {S : Pic} {dc : Nat} {p : Int32} (hdc : dc ≤ 12) (hz : S 0 0 = nI dc) : ∀ (n i : Nat), dc ≤ i + n → i ≤ dc → bl (f5_isLeftover_L2 S p n (nI i) 0) (∃ d : Nat, i ≤ d ∧ d < dc ∧ S 5 d = p) := by
  intro n
  induction n with
  | zero => intro i h1 h2; exact Or.inr ⟨rfl, fun ⟨d, a, b, _⟩ => by omega⟩
  | succ n ih =>
    intro i h1 h2
    rw [f5_isLeftover_L2, hz]
    rcases Nat.lt_or_ge i dc with q | q
    · rw [if_neg (nI_ge q (by omega)), f6_at_nI (by omega) (by omega)]
      by_cases c : S 5 i = p
      · rw [if_pos c]
        exact Or.inl ⟨rfl, i, Nat.le_refl _, q, c⟩
      · rw [if_neg c, nI_1]
        refine (ih (i + 1) (by omega) (by omega)).iff ⟨fun ⟨d, a, b, z⟩ => ⟨d, by omega, b, z⟩, fun ⟨d, a, b, z⟩ => ⟨d, ?_, b, z⟩⟩
        have : ¬ d = i := fun y => c (by rw [← y]; exact z)
        omega
    · rw [if_pos (nI_le q (by omega))]
      exact Or.inr ⟨rfl, fun ⟨d, a, b, _⟩ => by omega⟩
theorem isLo_bl {S : Pic} {dc : Nat} (p : Int32) (hdc : dc ≤ 12) (hz : S 0 0 = nI dc) : bl (f5_isLeftover S p) (∃ d : Nat, d < dc ∧ S 5 d = p) := by
  have f1 : fuelN (0 : Int32) (nI dc) = dc := by rw [← nI_0, fuelN_nI (by omega) (by omega)]; rfl
  rw [f5_isLeftover, hz, f1]
  exact (isLo_loop hdc hz dc 0 (by omega) (by omega)).iff ⟨fun ⟨d, _, b, z⟩ => ⟨d, b, z⟩, fun ⟨d, b, z⟩ => ⟨d, Nat.zero_le _, b, z⟩⟩
theorem src_lo {S : Pic} {dc e c : Nat} (w : Wf S dc) (hdc : dc ≤ 12) (hz : S 0 0 = nI dc) (he : e < dc) (hc : c < 84) (h : src S e c) : lo S e := by
  unfold src at h
  rcases w.2.1 c hc with q | ⟨d, hd, q, -⟩
  · rw [q, f6_at_neg] at h
    exact absurd h.symm (nI_ne_neg (by omega))
  · rw [q, f6_at_nI (by omega) (by omega)] at h
    intro z
    exact (isLo_bl (nI e) hdc hz).is0 z ⟨d, hd, h⟩
theorem nx_eq {S Y : Pic} {fnd : Nat → Int32} {e k : Nat} (hk : k < 84) (h : ∀ c : Nat, c < 84 → src S e c → Y 1 c = fnd c) : f1_nextSource Y S (nI e) (nI (k / 3)) = nx S fnd e k := by
  refine best_uniq (f := Y 1) (g := fnd) (fun c h1 h2 => ?_) (nx_best (by omega)) (nx_b hk)
  constructor
  · rintro ⟨a, b, d⟩; exact ⟨a, by rw [← h c (by omega) a]; exact b, d⟩
  · rintro ⟨a, b, d⟩; exact ⟨a, by rw [h c (by omega) a]; exact b, d⟩
theorem srv_part {S : Pic} {dc e p c : Nat} (w : Wf S dc) (hdc : dc ≤ 12) (he : e < dc) (hp : p < 3) (h1 : S 1 e = nI p) (hc : c < 84) (hs : S 11 c = nI e) : c % 3 = p := by
  rcases w.2.1 c hc with q | ⟨d, hd, q, q2⟩
  · rw [hs] at q; exact absurd q (nI_ne_neg (by omega))
  · have : e = d := (nI_eq (by omega) (by omega)).mp (hs.symm.trans q)
    subst this
    exact ((nI_eq (by omega) (by omega)).mp (h1.symm.trans q2)).symm
theorem Pf_span {S : Pic} {e a : Nat} : ∀ (n : Nat), (∀ j : Nat, a ≤ j → j < a + n → ¬ S 11 j = nI e) → Pf S e (a + n) = Pf S e a := by
  intro n
  induction n with
  | zero => intro _; rfl
  | succ n ih =>
    intro h
    show Pf S e (a + n + 1) = _
    rw [Pf, if_neg (h (a + n) (by omega) (by omega))]
    exact ih (fun j h1 h2 => h j h1 (by omega))
theorem Pf_one {S : Pic} {e k : Nat} (hs : S 11 k = nI e) {G F : Nat → Int32} (hk : k < 84) (hF : ∀ c : Nat, c < 84 → src S e c → F c = Pf S e k c) (hG : G = f6_put 84 F (nx S (Pf S e k) e k) 1) : (∀ c : Nat, c < 84 → src S e c → G c = Pf S e (k + 1) c) ∧ ∀ c : Nat, ¬ src S e c → G c = F c := by
  subst hG
  rw [Pf, if_pos hs]
  by_cases c2 : nx S (Pf S e k) e k = -1
  · rw [if_pos c2, c2, f6_put_neg]
    exact ⟨hF, fun _ _ => rfl⟩
  · rw [if_neg c2]
    obtain ⟨b, hb, -, e1, hcand⟩ := nx_in hk c2
    rw [e1, f6_put_nI hb (by omega), ix_nI (by omega)]
    refine ⟨fun c hc h => ?_, fun c h => ?_⟩
    · unfold upd
      by_cases q : c = b
      · rw [if_pos q, if_pos q]
      · rw [if_neg q, if_neg q, hF c hc h]
    · unfold upd
      rw [if_neg (fun q => h (by rw [q]; exact hcand.1))]
section PR
variable {S : Pic} {dc e p : Nat}
theorem pr_loop (w : Wf S dc) (hdc : dc ≤ 12) (he : e < dc) (hp : p < 3) (h1 : S 1 e = nI p) : ∀ (n i : Nat) (Y : Pic) (sd : Int32) (Q : Prop), i + n = 28 → bl sd Q → (∀ c : Nat, c < 84 → src S e c → Y 1 c = Pf S e (3 * i) c) → ∃ (r : Int32) (Y' : Pic), f1_pairServings_L15 S (nI e) (nI p) n sd (nI i) Y (fun a b => (a, b)) = (r, Y') ∧ bl r (Q ∧ ∀ k : Nat, 3 * i ≤ k → k < 84 → S 11 k = nI e → ¬ nx S (Pf S e k) e k = -1) ∧ (∀ c : Nat, c < 84 → src S e c → Y' 1 c = Pf S e 84 c) ∧ (∀ c : Nat, ¬ src S e c → Y' 1 c = Y 1 c) ∧ (∀ c : Nat, c < 84 → 3 * i ≤ c → S 11 c = nI e → Y' 0 c = nx S (Pf S e c) e c) ∧ (∀ c : Nat, (c < 3 * i ∨ ¬ S 11 c = nI e) → Y' 0 c = Y 0 c) := by
  intro n
  induction n with
  | zero =>
    intro i Y sd Q hi hb hY
    have : i = 28 := by omega
    subst this
    exact ⟨sd, Y, rfl, hb.iff ⟨fun q => ⟨q, fun k a b => by omega⟩, fun q => q.1⟩, hY, fun _ _ => rfl, fun c a b => by omega, fun _ _ => rfl⟩
  | succ n ih =>
    intro i Y sd Q hi hb hY
    have hday : ∀ c : Nat, 3 * i ≤ c → c < 3 * i + 3 → S 11 c = nI e → c = 3 * i + p := fun c a b z => by
      have := srv_part w hdc he hp h1 (show c < 84 by omega) z
      omega
    rw [f1_pairServings_L15, if_neg (gq28 (by omega)), f6_cellOf_nI]
    simp only [bd]
    rw [f6_at_nI (show 3 * i + p < 84 by omega) (by omega)]
    by_cases c : S 11 (3 * i + p) = nI e
    · have ePp : Pf S e (3 * i + p) = Pf S e (3 * i) := Pf_span p (fun j a b z => by have := hday j a (by omega) z; omega)
      have ePn : Pf S e (3 * (i + 1)) = Pf S e (3 * i + p + 1) := by
        have := Pf_span (S := S) (e := e) (a := 3 * i + p + 1) (2 - p) (fun j a b z => by have := hday j (by omega) (by omega) z; omega)
        rw [show 3 * i + p + 1 + (2 - p) = 3 * (i + 1) by omega] at this
        exact this
      have en : f1_nextSource Y S (nI e) (nI i) = nx S (Pf S e (3 * i + p)) e (3 * i + p) := by
        have := nx_eq (S := S) (Y := Y) (fnd := Pf S e (3 * i + p)) (e := e) (k := 3 * i + p) (by omega) (by rw [ePp]; exact hY)
        rw [show (3 * i + p) / 3 = i by omega] at this
        exact this
      rw [if_pos c, en]
      generalize hN : nx S (Pf S e (3 * i + p)) e (3 * i + p) = N
      have hg := Pf_one c (show 3 * i + p < 84 by omega) (F := Y 1) (by rw [ePp]; exact hY) (G := f6_put 84 (Y 1) N 1) (by rw [hN])
      have key : ∀ sd' : Int32, bl sd' (Q ∧ ¬ N = -1) → ∃ (r : Int32) (Y' : Pic), f1_pairServings_L15 S (nI e) (nI p) n sd' (nI i + 1) (pset (pset Y 0 (f6_put 84 (Y 0) (nI (3 * i + p)) N)) 1 (f6_put 84 ((pset Y 0 (f6_put 84 (Y 0) (nI (3 * i + p)) N)) 1) N 1)) (fun a b => (a, b)) = (r, Y') ∧ bl r (Q ∧ ∀ k : Nat, 3 * i ≤ k → k < 84 → S 11 k = nI e → ¬ nx S (Pf S e k) e k = -1) ∧ (∀ c : Nat, c < 84 → src S e c → Y' 1 c = Pf S e 84 c) ∧ (∀ c : Nat, ¬ src S e c → Y' 1 c = Y 1 c) ∧ (∀ c : Nat, c < 84 → 3 * i ≤ c → S 11 c = nI e → Y' 0 c = nx S (Pf S e c) e c) ∧ (∀ c : Nat, (c < 3 * i ∨ ¬ S 11 c = nI e) → Y' 0 c = Y 0 c) := by
        intro sd' hb'
        rw [nI_1, f6_put_nI (show 3 * i + p < 84 by omega) (by omega)]
        obtain ⟨r, Y', e1, hr, k2, k3, k4, k5⟩ := ih (i + 1) (pset (pset Y 0 (upd (Y 0) (3 * i + p) N)) 1 (f6_put 84 ((pset Y 0 (upd (Y 0) (3 * i + p) N)) 1) N 1)) sd' _ (by omega) hb' (fun c hc h => by rw [ePn]; exact hg.1 c hc h)
        refine ⟨r, Y', e1, hr.iff ⟨fun ⟨⟨a, b⟩, d⟩ => ⟨a, fun k x1 x2 x3 => ?_⟩, fun ⟨a, d⟩ => ⟨⟨a, ?_⟩, fun k x1 x2 x3 => d k (by omega) x2 x3⟩⟩, k2, fun c h => (k3 c h).trans (hg.2 c h), fun c hc x1 x2 => ?_, fun c h => ?_⟩
        · rcases Nat.lt_or_ge k (3 * (i + 1)) with y | y
          · have := hday k x1 (by omega) x3
            rw [this, hN]; exact b
          · exact d k y x2 x3
        · have := d (3 * i + p) (by omega) (by omega) c
          rw [hN] at this; exact this
        · rcases Nat.lt_or_ge c (3 * (i + 1)) with y | y
          · have := hday c x1 (by omega) x2
            rw [k5 c (Or.inl y), this, hN]
            show upd (Y 0) (3 * i + p) N (3 * i + p) = N
            unfold upd; rw [if_pos rfl]
          · exact k4 c hc y x2
        · have hne : ¬ c = 3 * i + p := by
            rintro rfl
            rcases h with y | y
            · omega
            · exact y c
          rw [k5 c (by rcases h with y | y; exact Or.inl (by omega); exact Or.inr y)]
          show upd (Y 0) (3 * i + p) N c = Y 0 c
          unfold upd; rw [if_neg hne]
      rcases hb with ⟨rfl, hQ⟩ | ⟨rfl, hQ⟩
      · rw [if_neg (by decide)]
        by_cases c2 : N = -1
        · rw [if_pos c2]
          exact key 0 (Or.inr ⟨rfl, fun q => q.2 c2⟩)
        · rw [if_neg c2]
          exact key 1 (Or.inl ⟨rfl, hQ, c2⟩)
      · rw [if_pos rfl]
        exact key 0 (Or.inr ⟨rfl, fun q => hQ q.1⟩)
    · have hno : ∀ k : Nat, 3 * i ≤ k → k < 3 * (i + 1) → ¬ S 11 k = nI e := fun k a b z => by
        have := hday k a (by omega) z
        rw [this] at z; exact c z
      have eP : Pf S e (3 * (i + 1)) = Pf S e (3 * i) := Pf_span 3 (fun j a b => hno j a (by omega))
      rw [if_neg c, nI_1]
      obtain ⟨r, Y', e1, hr, k2, k3, k4, k5⟩ := ih (i + 1) Y sd Q (by omega) hb (by rw [eP]; exact hY)
      refine ⟨r, Y', e1, hr.iff ⟨fun ⟨a, d⟩ => ⟨a, fun k x1 x2 x3 => d k ?_ x2 x3⟩, fun ⟨a, d⟩ => ⟨a, fun k x1 x2 x3 => d k (by omega) x2 x3⟩⟩, k2, k3, fun c hc x1 x2 => k4 c hc ?_ x2, fun c h => k5 c (by rcases h with y | y; exact Or.inl (by omega); exact Or.inr y)⟩
      · rcases Nat.lt_or_ge k (3 * (i + 1)) with y | y
        · exact absurd x3 (hno k x1 y)
        · exact y
      · rcases Nat.lt_or_ge c (3 * (i + 1)) with y | y
        · exact absurd x2 (hno c x1 y)
        · exact y
theorem pr_eq (w : Wf S dc) (hdc : dc ≤ 12) (he : e < dc) (Y : Pic) (hY : ∀ c : Nat, c < 84 → src S e c → Y 1 c = 0) : ∃ (r : Int32) (Y' : Pic), f1_pairServings Y S (nI e) = (r, Y') ∧ bl r (snd S e) ∧ (∀ c : Nat, c < 84 → src S e c → Y' 1 c = Pf S e 84 c) ∧ (∀ c : Nat, ¬ src S e c → Y' 1 c = Y 1 c) ∧ (∀ c : Nat, c < 84 → S 11 c = nI e → Y' 0 c = nx S (Pf S e c) e c) ∧ (∀ c : Nat, ¬ S 11 c = nI e → Y' 0 c = Y 0 c) := by
  obtain ⟨⟨p, hp, h1⟩, -⟩ := w.1 e he
  obtain ⟨r, Y', e1, hr, k2, k3, k4, k5⟩ := pr_loop w hdc he hp h1 28 0 Y 1 True rfl (Or.inl ⟨rfl, trivial⟩) (fun c hc h => (hY c hc h).trans (by rw [Nat.mul_zero, Pf]))
  refine ⟨r, Y', ?_, hr.iff ⟨fun q k a b => q.2 k (Nat.zero_le _) a b, fun q => ⟨trivial, fun k _ a b => q k a b⟩⟩, k2, k3, fun c hc h => k4 c hc (Nat.zero_le _) h, fun c h => k5 c (Or.inr h)⟩
  rw [f1_pairServings, f6_at_nI (by omega) (by omega), h1, bd_eq]
  exact e1
end PR
