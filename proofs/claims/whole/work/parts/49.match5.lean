theorem forget_0 {Y : Pic} {c : Nat} (hc : c < 84) : f1_forget Y 0 c = -1 := by
  show fJ7_fill_53178 84 (Y 0) (-1) c = -1
  unfold fJ7_fill_53178; rw [if_pos hc]
theorem forget_1 {Y : Pic} {c : Nat} (hc : c < 84) : f1_forget Y 1 c = 0 := by
  show fJ7_fill_53178 84 _ 0 c = 0
  unfold fJ7_fill_53178; rw [if_pos hc]
section PA
variable {S : Pic} {dc : Nat}
theorem pa_loop (w : Wf S dc) (hdc : dc ≤ 12) (hz : S 0 0 = nI dc) : ∀ (n i : Nat) (Y : Pic) (sd : Int32) (Q : Prop), dc ≤ i + n → i ≤ dc → bl sd Q → (∀ c e : Nat, c < 84 → i ≤ e → e < dc → src S e c → Y 1 c = 0) → ∃ (r : Int32) (Y' : Pic), f1_pairAll_L8 S n sd (nI i) Y (fun a b => (a, b)) = (r, Y') ∧ bl r (Q ∧ ∀ e : Nat, i ≤ e → e < dc → lo S e → snd S e) ∧ (∀ c e : Nat, c < 84 → i ≤ e → e < dc → src S e c → Y' 1 c = Pf S e 84 c) ∧ (∀ c : Nat, (∀ e : Nat, i ≤ e → e < dc → ¬ src S e c) → Y' 1 c = Y 1 c) := by
  intro n
  induction n with
  | zero =>
    intro i Y sd Q h1 h2 hb hY
    exact ⟨sd, Y, rfl, hb.iff ⟨fun q => ⟨q, fun e a b => by omega⟩, fun q => q.1⟩, fun c e _ a b => by omega, fun _ _ => rfl⟩
  | succ n ih =>
    intro i Y sd Q h1 h2 hb hY
    rw [f1_pairAll_L8, hz]
    rcases Nat.lt_or_ge i dc with q | q
    · rw [if_neg (nI_ge q (by omega))]
      simp only [bd]
      have far : ∀ (c e : Nat), i + 1 ≤ e → e < dc → src S e c → ¬ src S i c := fun c e a b z z2 => by
        have := (nI_eq (by omega) (by omega)).mp (z.symm.trans z2)
        omega
      by_cases hl : f5_isLeftover S (nI i) = 0
      · rw [if_pos hl, nI_1]
        obtain ⟨r, Y', e1, hr, k2, k3⟩ := ih (i + 1) Y sd Q (by omega) (by omega) hb (fun c e hc a b z => hY c e hc (by omega) b z)
        have hns : ∀ c : Nat, c < 84 → ¬ src S i c := fun c hc z => src_lo w hdc hz q hc z hl
        refine ⟨r, Y', e1, hr.iff ⟨fun ⟨a, d⟩ => ⟨a, fun e x1 x2 x3 => ?_⟩, fun ⟨a, d⟩ => ⟨a, fun e x1 x2 x3 => d e (by omega) x2 x3⟩⟩, fun c e hc x1 x2 z => ?_, fun c h => k3 c (fun e a b => h e (by omega) b)⟩
        · by_cases y : e = i
          · subst y; exact absurd hl x3
          · exact d e (by omega) x2 x3
        · by_cases y : e = i
          · subst y; exact absurd z (hns c hc)
          · exact k2 c e hc (by omega) x2 z
      · obtain ⟨r1, Y1, e1, hr1, g2, g3, -, -⟩ := pr_eq w hdc q Y (fun c hc z => hY c i hc (Nat.le_refl _) q z)
        rw [if_neg hl, e1]
        simp only [bd2]
        have key : ∀ sd' : Int32, bl sd' (Q ∧ snd S i) → ∃ (r : Int32) (Y' : Pic), f1_pairAll_L8 S n sd' (nI i + 1) Y1 (fun a b => (a, b)) = (r, Y') ∧ bl r (Q ∧ ∀ e : Nat, i ≤ e → e < dc → lo S e → snd S e) ∧ (∀ c e : Nat, c < 84 → i ≤ e → e < dc → src S e c → Y' 1 c = Pf S e 84 c) ∧ (∀ c : Nat, (∀ e : Nat, i ≤ e → e < dc → ¬ src S e c) → Y' 1 c = Y 1 c) := by
          intro sd' hb'
          rw [nI_1]
          obtain ⟨r, Y', e2, hr, k2, k3⟩ := ih (i + 1) Y1 sd' _ (by omega) (by omega) hb' (fun c e hc a b z => (g3 c (far c e a b z)).trans (hY c e hc (by omega) b z))
          refine ⟨r, Y', e2, hr.iff ⟨fun ⟨⟨a, b⟩, d⟩ => ⟨a, fun e x1 x2 x3 => ?_⟩, fun ⟨a, d⟩ => ⟨⟨a, d i (Nat.le_refl _) q hl⟩, fun e x1 x2 x3 => d e (by omega) x2 x3⟩⟩, fun c e hc x1 x2 z => ?_, fun c h => (k3 c (fun e a b => h e (by omega) b)).trans (g3 c (h i (Nat.le_refl _) q))⟩
          · by_cases y : e = i
            · rw [y]; exact b
            · exact d e (by omega) x2 x3
          · by_cases y : e = i
            · subst y
              rw [k3 c (fun e' a b z2 => far c e' a b z2 z)]
              exact g2 c hc z
            · exact k2 c e hc (by omega) x2 z
        rcases hr1 with ⟨y, hs⟩ | ⟨y, hs⟩
        · rw [y, if_neg (by decide)]
          refine key sd (hb.iff ⟨fun z => ⟨z, hs⟩, fun z => z.1⟩)
        · rw [y, if_pos rfl]
          exact key 0 (Or.inr ⟨rfl, fun z => hs z.2⟩)
    · rw [if_pos (nI_le q (by omega))]
      exact ⟨sd, Y, rfl, hb.iff ⟨fun q => ⟨q, fun e a b => by omega⟩, fun q => q.1⟩, fun c e _ a b => by omega, fun _ _ => rfl⟩
theorem pairAll_eq (w : Wf S dc) (hdc : dc ≤ 12) (hz : S 0 0 = nI dc) (Y : Pic) : ∃ (r : Int32) (Y' : Pic), f1_pairAll Y S = (r, Y') ∧ bl r (gd S dc) ∧ (∀ c e : Nat, c < 84 → e < dc → src S e c → Y' 1 c = Pf S e 84 c) := by
  have f1 : fuelN (0 : Int32) (nI dc) = dc := by rw [← nI_0, fuelN_nI (by omega) (by omega)]; rfl
  rw [f1_pairAll, hz, f1]
  simp only [bd]
  obtain ⟨r, Y', e1, hr, k2, -⟩ := pa_loop w hdc hz dc 0 (f1_forget Y) 1 True (by omega) (by omega) (Or.inl ⟨rfl, trivial⟩) (fun c e hc _ _ _ => forget_1 hc)
  exact ⟨r, Y', e1, hr.iff ⟨fun q e a b => q.2 e (Nat.zero_le _) a b, fun q => ⟨trivial, fun e _ a b => q e a b⟩⟩, fun c e hc he => k2 c e hc (Nat.zero_le _) he⟩
end PA
/-- the model's other fields stay -/
def Fr (M M' : Pic) : Prop := ∀ j : Nat, j ≠ 8 → j ≠ 9 → M' j = M j
theorem Fr.rfl' {M : Pic} : Fr M M := fun _ _ _ => rfl
theorem Fr.trans {M M' M'' : Pic} (h : Fr M M') (h' : Fr M' M'') : Fr M M'' := fun j a b => (h' j a b).trans (h j a b)
theorem Fr.zero {M M' : Pic} (h : Fr M M') : M' 0 = M 0 := h 0 (by decide) (by decide)
theorem Fr.rel {S M M' : Pic} {dc gc : Nat} (h : Fr M M') (r : Rel S (M 0) dc gc) : Rel S (M' 0) dc gc := by rw [h.zero]; exact r
theorem pset_same {S : Pic} {k : Nat} {f : Nat → Int32} : pset S k f k = f := by unfold pset; rw [if_pos rfl]
theorem pset_ne {S : Pic} {k j : Nat} {f : Nat → Int32} (h : j ≠ k) : pset S k f j = S j := by unfold pset; rw [if_neg h]
theorem upd_same {f : Nat → Int32} {k : Nat} {v : Int32} : upd f k v k = v := by unfold upd; rw [if_pos rfl]
theorem upd_ne {f : Nat → Int32} {k j : Nat} {v : Int32} (h : j ≠ k) : upd f k v j = f j := by unfold upd; rw [if_neg h]
theorem Fr.p8 {M M' : Pic} {f : Nat → Int32} (h : Fr (pset M 8 f) M') : Fr M M' := fun j a b => (h j a b).trans (pset_ne a)
theorem Fr.p9 {M M' : Pic} {f : Nat → Int32} (h : Fr (pset M 9 f) M') : Fr M M' := fun j a b => (h j a b).trans (pset_ne b)
theorem match_clear {α : Type} : ∀ (n i : Nat) (M : Pic) (k : Pic → Option (Int32 × Pic)), i + n = 84 → ∃ M' : Pic, f7_match_L2 n (nI i) M k = k M' ∧ Fr M M' ∧ (∀ c : Nat, c < 84 → i ≤ c → M' 8 c = -1 ∧ M' 9 c = 0) ∧ ∀ c : Nat, c < i → M' 8 c = M 8 c ∧ M' 9 c = M 9 c := by
  intro n
  induction n with
  | zero => intro i M k hi; exact ⟨M, rfl, Fr.rfl', fun c a b => by omega, fun _ _ => ⟨rfl, rfl⟩⟩
  | succ n ih =>
    intro i M k hi
    rw [f7_match_L2, if_neg (gq84 (by omega)), ck_nI (by omega) (by omega)]
    simp only [bd]
    rw [ck_nI (by omega) (by omega), ix_nI (by omega), nI_1]
    obtain ⟨M', e1, hf, h1, h2⟩ := ih (i + 1) (pset (pset M 8 (upd (M 8) i (-1))) 9 (upd ((pset M 8 (upd (M 8) i (-1))) 9) i 0)) k (by omega)
    refine ⟨M', e1, (hf.p9).p8, fun c a b => ?_, fun c a => ?_⟩
    · rcases Nat.lt_or_ge c (i + 1) with y | y
      · have : c = i := by omega
        subst this
        obtain ⟨x1, x2⟩ := h2 c y
        refine ⟨x1.trans ?_, x2.trans ?_⟩
        · rw [pset_ne (by decide), pset_same, upd_same]
        · rw [pset_same, upd_same]
      · exact h1 c a y
    · obtain ⟨x1, x2⟩ := h2 c (by omega)
      refine ⟨x1.trans ?_, x2.trans ?_⟩
      · rw [pset_ne (by decide), pset_same, upd_ne (by omega)]
      · rw [pset_same, upd_ne (by omega), pset_ne (by decide)]
section MA
variable {S : Pic} {dc gc : Nat}
theorem ma_loop (w : Wf S dc) : ∀ (n i : Nat) (M : Pic) (sd : Int32) (Q : Prop), i + n = 84 → Rel S (M 0) dc gc → bl sd Q → (∀ c e : Nat, c < 84 → e < dc → src S e c → M 9 c = Pf S e i c) → ∃ (r : Int32) (M' : Pic), f7_match_L32 n sd (nI i) M (fun a b => some (a, b)) = some (r, M') ∧ Fr M M' ∧ bl r (Q ∧ ∀ k e : Nat, i ≤ k → k < 84 → e < dc → lo S e → S 11 k = nI e → ¬ nx S (Pf S e k) e k = -1) ∧ (∀ c e : Nat, c < 84 → e < dc → src S e c → M' 9 c = Pf S e 84 c) ∧ (∀ c e : Nat, c < 84 → i ≤ c → e < dc → lo S e → S 11 c = nI e → M' 8 c = nx S (Pf S e c) e c) ∧ (∀ c : Nat, (c < i ∨ ∀ e : Nat, e < dc → lo S e → ¬ S 11 c = nI e) → M' 8 c = M 8 c) := by
  intro n
  induction n with
  | zero =>
    intro i M sd Q hi h hb hA
    have : i = 84 := by omega
    subst this
    exact ⟨sd, M, rfl, Fr.rfl', hb.iff ⟨fun q => ⟨q, fun k e a b => by omega⟩, fun q => q.1⟩, hA, fun c e a b => by omega, fun _ _ => rfl⟩
  | succ n ih =>
    intro i M sd Q hi h hb hA
    have hdc := h.1
    have hz := h.2.2.1
    rw [f7_match_L32, if_neg (gq84 (by omega)), ck_cell (by omega), h.cell (by omega)]
    simp only [bd]
    -- a cell that is no serving of a leftover
    have skip : (∀ e : Nat, e < dc → lo S e → ¬ S 11 i = nI e) → ∃ (r : Int32) (M' : Pic), f7_match_L32 n sd (nI i + 1) M (fun a b => some (a, b)) = some (r, M') ∧ Fr M M' ∧ bl r (Q ∧ ∀ k e : Nat, i ≤ k → k < 84 → e < dc → lo S e → S 11 k = nI e → ¬ nx S (Pf S e k) e k = -1) ∧ (∀ c e : Nat, c < 84 → e < dc → src S e c → M' 9 c = Pf S e 84 c) ∧ (∀ c e : Nat, c < 84 → i ≤ c → e < dc → lo S e → S 11 c = nI e → M' 8 c = nx S (Pf S e c) e c) ∧ (∀ c : Nat, (c < i ∨ ∀ e : Nat, e < dc → lo S e → ¬ S 11 c = nI e) → M' 8 c = M 8 c) := by
      intro hno
      rw [nI_1]
      obtain ⟨r, M', e1, hf, hr, k2, k3, k4⟩ := ih (i + 1) M sd Q (by omega) h hb (fun c e hc he z => by
        rw [hA c e hc he z, Pf, if_neg (hno e he (src_lo w hdc hz he hc z))])
      refine ⟨r, M', e1, hf, hr.iff ⟨fun ⟨a, d⟩ => ⟨a, fun k e x1 x2 x3 x4 x5 => ?_⟩, fun ⟨a, d⟩ => ⟨a, fun k e x1 x2 x3 x4 x5 => d k e (by omega) x2 x3 x4 x5⟩⟩, k2, fun c e hc x1 x2 x3 x4 => ?_, fun c h => k4 c (by rcases h with y | y; exact Or.inl (by omega); exact Or.inr y)⟩
      · rcases Nat.lt_or_ge k (i + 1) with y | y
        · have : k = i := by omega
          rw [this] at x5; exact absurd x5 (hno e x3 x4)
        · exact d k e y x2 x3 x4 x5
      · rcases Nat.lt_or_ge c (i + 1) with y | y
        · have : c = i := by omega
          rw [this] at x4; exact absurd x4 (hno e x2 x3)
        · exact k3 c e hc y x2 x3 x4
    rcases h.plan w (show i < 84 by omega) with q | ⟨d, hd1, hd2, q⟩
    · rw [q, if_pos rfl]
      exact skip (fun e he _ z => by rw [q] at z; exact nI_ne_neg (by omega) z.symm)
    · rw [q, if_neg (nI_ne_neg (by omega)), isLeftover_eq h, ob1_some]
      by_cases hl : f5_isLeftover S (nI d) = 0
      · rw [if_pos hl]
        exact skip (fun e he z z2 => by
          rw [q] at z2
          have := (nI_eq (by omega) (by omega)).mp z2
          rw [← this] at z; exact z hl)
      · rw [if_neg hl, cell3 (by omega), sourceFor_eq (Y := fun _ => Pf S d i) h w (by omega) hd1 (fun c hc z => hA c d hc hd1 z), ob1_some, ck_nI (by omega) (by omega), ix_nI (by omega)]
        rw [show f1_nextSource (fun _ => Pf S d i) S (nI d) (nI (i / 3)) = nx S (Pf S d i) d i from rfl]
        generalize hN : nx S (Pf S d i) d i = N
        have hP : ∀ (c e : Nat), c < 84 → e < dc → ¬ e = d → Pf S e (i + 1) c = Pf S e i c := fun c e hc he hne => by
          rw [Pf, if_neg (fun z => hne ((nI_eq (by omega) (by omega)).mp (z.symm.trans q)))]
        have key : ∀ (sd' : Int32) (G : Nat → Int32), bl sd' (Q ∧ ¬ N = -1) → (∀ c : Nat, c < 84 → src S d c → G c = Pf S d (i + 1) c) → (∀ c : Nat, ¬ src S d c → G c = M 9 c) → ∀ M1 : Pic, Fr M M1 → M1 8 = upd (M 8) i N → M1 9 = G → ∃ (r : Int32) (M' : Pic), f7_match_L32 n sd' (nI i + 1) M1 (fun a b => some (a, b)) = some (r, M') ∧ Fr M M' ∧ bl r (Q ∧ ∀ k e : Nat, i ≤ k → k < 84 → e < dc → lo S e → S 11 k = nI e → ¬ nx S (Pf S e k) e k = -1) ∧ (∀ c e : Nat, c < 84 → e < dc → src S e c → M' 9 c = Pf S e 84 c) ∧ (∀ c e : Nat, c < 84 → i ≤ c → e < dc → lo S e → S 11 c = nI e → M' 8 c = nx S (Pf S e c) e c) ∧ (∀ c : Nat, (c < i ∨ ∀ e : Nat, e < dc → lo S e → ¬ S 11 c = nI e) → M' 8 c = M 8 c) := by
          intro sd' G hb' hG1 hG2 M1 hM1 h8 h9
          rw [nI_1]
          obtain ⟨r, M', e1, hf, hr, k2, k3, k4⟩ := ih (i + 1) M1 sd' _ (by omega) (hM1.rel h) hb' (fun c e hc he z => by
            rw [h9]
            by_cases y : e = d
            · subst y; exact hG1 c hc z
            · rw [hG2 c (fun z2 => y ((nI_eq (by omega) (by omega)).mp (z.symm.trans z2))), hA c e hc he z, hP c e hc he y])
          refine ⟨r, M', e1, hM1.trans hf, hr.iff ⟨fun ⟨⟨a, b⟩, g⟩ => ⟨a, fun k e x1 x2 x3 x4 x5 => ?_⟩, fun ⟨a, g⟩ => ⟨⟨a, ?_⟩, fun k e x1 x2 x3 x4 x5 => g k e (by omega) x2 x3 x4 x5⟩⟩, k2, fun c e hc x1 x2 x3 x4 => ?_, fun c hh => ?_⟩
          · rcases Nat.lt_or_ge k (i + 1) with y | y
            · have : k = i := by omega
              subst this
              have : e = d := (nI_eq (by omega) (by omega)).mp (x5.symm.trans q)
              subst this
              rw [hN]; exact b
            · exact g k e y x2 x3 x4 x5
          · have := g i d (Nat.le_refl _) (by omega) hd1 hl q
            rw [hN] at this; exact this
          · rcases Nat.lt_or_ge c (i + 1) with y | y
            · have : c = i := by omega
              subst this
              have : e = d := (nI_eq (by omega) (by omega)).mp (x4.symm.trans q)
              subst this
              rw [k4 c (Or.inl (by omega)), h8, upd_same, hN]
            · exact k3 c e hc y x2 x3 x4
          · have hne : ¬ c = i := by
              rintro rfl
              rcases hh with y | y
              · omega
              · exact y d hd1 hl q
            rw [k4 c (by rcases hh with y | y; exact Or.inl (by omega); exact Or.inr y), h8, upd_ne hne]
        have hp1 := Pf_one q (show i < 84 by omega) (F := M 9) (G := f6_put 84 (M 9) N 1) (fun c hc z => hA c d hc hd1 z) (by rw [hN])
        have m8 : (pset M 8 (upd (M 8) i N)) 9 = M 9 := pset_ne (by decide)
        by_cases c2 : N = -1
        · have hg := hp1
          rw [c2, f6_put_neg] at hg
          have fin := key 0 (M 9) (Or.inr ⟨rfl, fun z => z.2 c2⟩) hg.1 hg.2 (pset M 8 (upd (M 8) i N)) (Fr.p8 Fr.rfl') pset_same m8
          by_cases s : sd = 0
          · rw [if_pos s, if_pos c2]; exact fin
          · rw [if_neg s, if_pos c2]; exact fin
        · obtain ⟨b, hb84, -, eb, -⟩ := nx_in (S := S) (fnd := Pf S d i) (e := d) (show i < 84 by omega) (by rw [hN]; exact c2)
          rw [hN] at eb
          have hg := hp1
          rw [eb, f6_put_nI hb84 (by omega)] at hg
          have hFr : Fr M (pset (pset M 8 (upd (M 8) i N)) 9 (upd (M 9) b 1)) := (Fr.p9 (f := upd (M 9) b 1) (M := pset M 8 (upd (M 8) i N)) Fr.rfl').p8
          have h8 : (pset (pset M 8 (upd (M 8) i N)) 9 (upd (M 9) b 1)) 8 = upd (M 8) i N := by rw [pset_ne (by decide), pset_same]
          rcases hb with ⟨rfl, hQ⟩ | ⟨rfl, hQ⟩
          · rw [if_neg (by decide), if_neg c2, eb, ck_nI hb84 (by omega), ix_nI (by omega), ← eb, m8]
            exact key 1 _ (Or.inl ⟨rfl, hQ, c2⟩) hg.1 hg.2 _ hFr h8 pset_same
          · rw [if_pos rfl, if_neg c2, eb, ck_nI hb84 (by omega), ix_nI (by omega), ← eb, m8]
            exact key 0 _ (Or.inr ⟨rfl, fun z => hQ z.1⟩) hg.1 hg.2 _ hFr h8 pset_same
/-- what the model's matching answers and leaves -/
theorem match_eq {M : Pic} (h : Rel S (M 0) dc gc) (w : Wf S dc) : ∃ (r : Int32) (M' : Pic), f7_match M = some (r, M') ∧ Fr M M' ∧ bl r (gd S dc) ∧ (∀ c e : Nat, c < 84 → e < dc → src S e c → M' 9 c = Pf S e 84 c) ∧ (∀ c e : Nat, c < 84 → e < dc → lo S e → S 11 c = nI e → M' 8 c = nx S (Pf S e c) e c) ∧ (∀ c : Nat, c < 84 → (∀ e : Nat, e < dc → lo S e → ¬ S 11 c = nI e) → M' 8 c = -1) := by
  obtain ⟨M1, e1, hf, h1, -⟩ := match_clear (α := Nat) 84 0 M (fun M_2 => f7_match_L32 84 1 0 M_2 (fun a b => some (a, b))) rfl
  obtain ⟨r, M', e2, hf2, hr, k2, k3, k4⟩ := ma_loop (gc := gc) w 84 0 M1 1 True rfl (hf.rel h) (Or.inl ⟨rfl, trivial⟩) (fun c e hc he _ => (h1 c hc (Nat.zero_le _)).2)
  refine ⟨r, M', e1.trans e2, hf.trans hf2, hr.iff ⟨fun q e a b k x1 x2 => q.2 k e (Nat.zero_le _) x1 a b x2, fun q => ⟨trivial, fun k e _ x1 a b x2 => q e a b k x1 x2⟩⟩, k2, fun c e hc => k3 c e hc (Nat.zero_le _), fun c hc hh => (k4 c (Or.inr hh)).trans (h1 c hc (Nat.zero_le _)).1⟩
end MA
