/-- a source of e that no serving ahead of k has found -/
def Un (S : Pic) (e k c : Nat) : Prop := f6_at 12 (S 5) (S 11 c) = nI e ∧ Pf S e k c = 0
theorem Un_step {S : Pic} {e k b : Nat} (hk : k < 84) (hs : S 11 k = nI e) (hb : b < 84) (hr : nx S (Pf S e k) e k = nI b) (c : Nat) : Un S e (k + 1) c ↔ Un S e k c ∧ c ≠ b := by
  have e1 : Pf S e (k + 1) = upd (Pf S e k) b 1 := by
    rw [Pf, if_pos hs, hr, if_neg (nI_ne_neg (by omega)), ix_nI (by omega)]
  unfold Un
  rw [e1, upd]
  by_cases q : c = b
  · rw [if_pos q]
    exact ⟨fun z => absurd z.2 (by decide), fun z => absurd q z.2⟩
  · rw [if_neg q]
    exact ⟨fun z => ⟨z, q⟩, fun z => z.1⟩
theorem Un_same {S : Pic} {e k : Nat} (hs : ¬ S 11 k = nI e) (c : Nat) : Un S e (k + 1) c ↔ Un S e k c := by
  unfold Un
  rw [Pf, if_neg hs]
section MONO
variable {S S' : Pic} {e x0 : Nat}
theorem mono (hx : S 11 x0 = -1) (hv : ¬ S' 11 x0 = nI e) (h5 : S' 5 = S 5) (h6 : S' 6 = S 6) (h11 : ∀ c : Nat, c ≠ x0 → S' 11 c = S 11 c) (he : e < 2 ^ 31) (hs : snd S e) : snd S' e := by
  have hL : ∀ c : Nat, c ≠ x0 → lastD S' c = lastD S c := fun c hc => by unfold lastD; rw [h6, h11 c hc]
  have hU0 : ∀ c k : Nat, Un S e k c → c ≠ x0 := by
    rintro c k ⟨z, -⟩ rfl
    rw [hx, f6_at_neg] at z
    exact nI_ne_neg he z.symm
  have hserv : ∀ k : Nat, S' 11 k = nI e → k ≠ x0 ∧ S 11 k = nI e := by
    intro k h
    have : k ≠ x0 := fun q => hv (by rw [← q]; exact h)
    exact ⟨this, by rw [← h11 k this]; exact h⟩
  have key : ∀ k : Nat, k ≤ 84 → (∀ j : Nat, j < k → S' 11 j = nI e → ¬ nx S' (Pf S' e j) e j = -1) ∧ ((∀ c : Nat, c < 84 → (Un S' e k c ↔ Un S e k c)) ∨ ∃ x : Nat, x < 84 ∧ Un S' e k x ∧ ¬ Un S e k x ∧ ∀ c : Nat, c < 84 → c ≠ x → (Un S' e k c ↔ Un S e k c)) := by
    intro k
    induction k with
    | zero =>
      intro _
      refine ⟨fun j hj => by omega, ?_⟩
      have hc : ∀ c : Nat, c ≠ x0 → (Un S' e 0 c ↔ Un S e 0 c) := fun c hc => by unfold Un; rw [h5, h11 c hc]; rfl
      have hn : ¬ Un S e 0 x0 := fun z => hU0 x0 0 z rfl
      by_cases q : Un S' e 0 x0 ∧ x0 < 84
      · exact Or.inr ⟨x0, q.2, q.1, hn, fun c _ h => hc c h⟩
      · refine Or.inl fun c hc84 => ?_
        by_cases d : c = x0
        · subst d
          exact ⟨fun z => absurd ⟨z, hc84⟩ q, fun z => absurd z hn⟩
        · exact hc c d
    | succ k ih =>
      intro hk
      obtain ⟨ihs, ihU⟩ := ih (by omega)
      by_cases hsv : S' 11 k = nI e
      · obtain ⟨hk0, hsv0⟩ := hserv k hsv
        obtain ⟨b, hb, hbr, hr, hcand⟩ := nx_in (by omega) (hs k (by omega) hsv0)
        have hUb : Un S e k b := ⟨hcand.1, hcand.2.1⟩
        have hb0 := hU0 b k hUb
        have hUb' : Un S' e k b := by
          rcases ihU with z | ⟨x, hx84, hx1, hx2, hx3⟩
          · exact (z b hb).mpr hUb
          · exact (hx3 b hb (fun q => hx2 (by rw [← q]; exact hUb))).mpr hUb
        have hcb' : cand S' (Pf S' e k) e (k / 3) b := ⟨hUb'.1, hUb'.2, by rw [hL b hb0]; exact hcand.2.2⟩
        have B := nx_b (S := S) (fnd := Pf S e k) (e := e) (show k < 84 by omega)
        have B' := nx_b (S := S') (fnd := Pf S' e k) (e := e) (show k < 84 by omega)
        have hlo : 3 * (k / 3 - 6) ≤ b := by
          rcases B with ⟨z, -⟩ | ⟨b2, z, z2, z3, -⟩
          · rw [z] at hr; exact absurd hr.symm (nI_ne_neg (by omega))
          · have : b2 = b := (nI_eq (by omega) (by omega)).mp (z.symm.trans hr)
            omega
        have hlex : ∀ c : Nat, 3 * (k / 3 - 6) ≤ c → c < 3 * (k / 3) → cand S (Pf S e k) e (k / 3) c → lexle S b c := by
          rcases B with ⟨z, -⟩ | ⟨b2, z, z2, z3, z4, z5⟩
          · rw [z] at hr; exact absurd hr.symm (nI_ne_neg (by omega))
          · have : b2 = b := (nI_eq (by omega) (by omega)).mp (z.symm.trans hr)
            rw [← this]; exact z5
        rcases B' with ⟨z, z2⟩ | ⟨b', z1, z2, z3, z4, z5⟩
        · exact absurd hcb' (z2 b hlo hbr)
        · have hr' : nx S' (Pf S' e k) e k = nI b' := z1
          have hb' : b' < 84 := by omega
          have hs1 := Un_step (S := S) (show k < 84 by omega) hsv0 hb hr
          have hs2 := Un_step (S := S') (show k < 84 by omega) hsv hb' hr'
          refine ⟨fun j hj hj2 => ?_, ?_⟩
          · rcases Nat.lt_or_ge j k with w | w
            · exact ihs j w hj2
            · rw [show j = k by omega, hr']; exact nI_ne_neg (by omega)
          · have same : Un S e k b' → b' = b := by
              intro hu
              have h0 := hU0 b' k hu
              refine lex_anti (S := S) ?_ (hlex b' z2 z3 ⟨hu.1, hu.2, by rw [← hL b' h0]; exact z4.2.2⟩)
              have := z5 b hlo hbr hcb'
              unfold lexle at this ⊢
              rw [hL b hb0, hL b' h0] at this
              exact this
            rcases ihU with w | ⟨x, hx84, hx1, hx2, hx3⟩
            · have := same ((w b' hb').mp ⟨z4.1, z4.2.1⟩)
              refine Or.inl fun c hc => ?_
              rw [hs1, hs2, this, w c hc]
            · by_cases q : b' = x
              · refine Or.inr ⟨b, hb, (hs2 b).mpr ⟨hUb', fun z => hx2 (by rw [← q, ← z]; exact hUb)⟩, fun z => ((hs1 b).mp z).2 rfl, fun c hc hcb => ?_⟩
                rw [hs1, hs2]
                by_cases q2 : c = x
                · subst q2
                  exact ⟨fun z => absurd q.symm z.2, fun z => absurd z.1 hx2⟩
                · rw [hx3 c hc q2]
                  exact ⟨fun z => ⟨z.1, hcb⟩, fun z => ⟨z.1, fun y => q2 (y.trans q)⟩⟩
              · have := same ((hx3 b' hb' q).mp ⟨z4.1, z4.2.1⟩)
                refine Or.inr ⟨x, hx84, (hs2 x).mpr ⟨hx1, fun z => q z.symm⟩, fun z => hx2 ((hs1 x).mp z).1, fun c hc hcx => ?_⟩
                rw [hs1, hs2, this, hx3 c hc hcx]
      · have hsv0 : ¬ S 11 k = nI e := by
          intro z
          by_cases q : k = x0
          · rw [q, hx] at z; exact nI_ne_neg he z.symm
          · exact hsv (by rw [h11 k q]; exact z)
        refine ⟨fun j hj hj2 => ?_, ?_⟩
        · rcases Nat.lt_or_ge j k with w | w
          · exact ihs j w hj2
          · exact absurd hj2 (by rw [show j = k by omega]; exact hsv)
        · rcases ihU with w | ⟨x, hx84, hx1, hx2, hx3⟩
          · exact Or.inl fun c hc => by rw [Un_same hsv, Un_same hsv0, w c hc]
          · exact Or.inr ⟨x, hx84, (Un_same hsv x).mpr hx1, fun z => hx2 ((Un_same hsv0 x).mp z), fun c hc hcx => by rw [Un_same hsv, Un_same hsv0, hx3 c hc hcx]⟩
  intro k hk h
  exact (key (k + 1) (by omega)).1 k (by omega) h
end MONO
