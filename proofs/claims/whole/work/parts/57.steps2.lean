theorem INV.mk' {S G N T M S' G' M' : Pic} {Z Z' : Nat → Pic} {dc gc : Nat} (I : INV S G Z N T M) (s : SR S' (M' 0) dc gc) (hh : HR G' Z' M') (e : ∀ j : Nat, 3 ≤ j → j ≤ 6 → M' j = M j) : INV S' G' Z' N T M' := by
  obtain ⟨-, -, hn, ht⟩ := I
  refine ⟨⟨dc, gc, s⟩, hh, ?_, ?_⟩
  · unfold SN at hn ⊢
    rw [e 3 (by omega) (by omega), e 4 (by omega) (by omega)]
    exact hn
  · unfold TX at ht ⊢
    rw [e 5 (by omega) (by omega), e 6 (by omega) (by omega)]
    exact ht
theorem at_upd {n d : Nat} {f : Nat → Int32} {v : Int32} {x : Int32} (hn : n < 2 ^ 31) (h : x = -1 ∨ ∃ j : Nat, j < n ∧ j ≠ d ∧ x = nI j) : f6_at n (upd f d v) x = f6_at n f x := by
  rcases h with q | ⟨j, h1, h2, q⟩
  · rw [q, f6_at_neg, f6_at_neg]
  · rw [q, f6_at_nI h1 hn, f6_at_nI h1 hn, upd_ne h2]
section NEW
variable {S : Pic} {z : Nat → Int32} {dc gc k1 k2 k3 k4 : Nat}
theorem newDish_sr (h : SR S z dc gc) (hd : dc < 12) (h1 : k1 ≤ 2) (h2 : k2 ≤ 30) : SR (f5_newDish S (nI k1) (nI k2) (nI k3) (nI k4)).2 (upd (upd (upd (upd (upd (upd (upd z (5 + 6 * dc) (nI k1)) (5 + 6 * dc + 1) (nI k2)) (5 + 6 * dc + 2) (nI k3)) (5 + 6 * dc + 3) (nI k4)) (5 + 6 * dc + 4) (-1)) (5 + 6 * dc + 5) 0) 3 (nI dc + 1)) (dc + 1) gc := by
  obtain ⟨r, w, g, x⟩ := h
  have hx := bx_wc w r.1 x
  obtain ⟨r1, r2, r3, r4, r5, r6, r7, r8, r9, r10⟩ := r
  obtain ⟨X, eX⟩ : ∃ X : Pic, (f5_newDish S (nI k1) (nI k2) (nI k3) (nI k4)).2 = X := ⟨_, rfl⟩
  have x0 : X 0 0 = S 0 0 + 1 := by rw [← eX]; rfl
  have x1 : X 1 = upd (S 1) dc (nI k1) := by rw [← eX, ← f6_put_nI (n := 12) hd (by omega), ← r3]; rfl
  have x2 : X 2 = upd (S 2) dc (nI k2) := by rw [← eX, ← f6_put_nI (n := 12) hd (by omega), ← r3]; rfl
  have x3 : X 3 = upd (S 3) dc (nI k3) := by rw [← eX, ← f6_put_nI (n := 12) hd (by omega), ← r3]; rfl
  have x4 : X 4 = upd (S 4) dc (nI k4) := by rw [← eX, ← f6_put_nI (n := 12) hd (by omega), ← r3]; rfl
  have x5 : X 5 = upd (S 5) dc (-1) := by rw [← eX, ← f6_put_nI (n := 12) hd (by omega), ← r3]; rfl
  have x6 : X 6 = upd (S 6) dc 0 := by rw [← eX, ← f6_put_nI (n := 12) hd (by omega), ← r3]; rfl
  have x7 : X 7 = S 7 := by rw [← eX]; rfl
  have x8 : X 8 = S 8 := by rw [← eX]; rfl
  have x9 : X 9 = S 9 := by rw [← eX]; rfl
  have x10 : X 10 = S 10 := by rw [← eX]; rfl
  have x11 : X 11 = S 11 := by rw [← eX]; rfl
  rw [eX]
  clear eX
  obtain ⟨R, eR⟩ : ∃ R : Nat → Int32, upd (upd (upd (upd (upd (upd (upd z (5 + 6 * dc) (nI k1)) (5 + 6 * dc + 1) (nI k2)) (5 + 6 * dc + 2) (nI k3)) (5 + 6 * dc + 3) (nI k4)) (5 + 6 * dc + 4) (-1)) (5 + 6 * dc + 5) 0) 3 (nI dc + 1) = R := ⟨_, rfl⟩
  have old : ∀ i : Nat, i ≠ 3 → (i < 5 + 6 * dc ∨ 5 + 6 * dc + 6 ≤ i) → R i = z i := fun i a b => by
    rw [← eR, upd_ne a, upd_ne (by omega), upd_ne (by omega), upd_ne (by omega), upd_ne (by omega), upd_ne (by omega), upd_ne (by omega)]
  have n0 : R (5 + 6 * dc) = nI k1 := by
    rw [← eR, upd_ne (by omega), upd_ne (by omega), upd_ne (by omega), upd_ne (by omega), upd_ne (by omega), upd_ne (by omega), upd_same]
  have n1 : R (5 + 6 * dc + 1) = nI k2 := by
    rw [← eR, upd_ne (by omega), upd_ne (by omega), upd_ne (by omega), upd_ne (by omega), upd_ne (by omega), upd_same]
  have n2 : R (5 + 6 * dc + 2) = nI k3 := by
    rw [← eR, upd_ne (by omega), upd_ne (by omega), upd_ne (by omega), upd_ne (by omega), upd_same]
  have n3 : R (5 + 6 * dc + 3) = nI k4 := by
    rw [← eR, upd_ne (by omega), upd_ne (by omega), upd_ne (by omega), upd_same]
  have n4 : R (5 + 6 * dc + 4) = -1 := by
    rw [← eR, upd_ne (by omega), upd_ne (by omega), upd_same]
  have n5 : R (5 + 6 * dc + 5) = 0 := by
    rw [← eR, upd_ne (by omega), upd_same]
  have nc : R 3 = nI (dc + 1) := by rw [← eR, upd_same, nI_1]
  rw [eR]
  clear eR
  have pl : ∀ c : Nat, c < 84 → S 11 c = -1 ∨ ∃ j : Nat, j < 12 ∧ j ≠ dc ∧ S 11 c = nI j := fun c hc => by
    rcases w.2.1 c hc with q | ⟨d, q1, q2, -⟩
    · exact Or.inl q
    · exact Or.inr ⟨d, by omega, by omega, q2⟩
  have rel : Rel X R (dc + 1) gc := by
    refine ⟨by omega, r2, by rw [x0, r3, nI_1], by rw [x7]; exact r4, nc, by rw [old 4 (by omega) (by omega)]; exact r6, fun d k hd' hk => ?_, fun g' hg => ?_, fun k hk => ?_, fun c hc => ?_⟩
    · by_cases y : d = dc
      · subst y
        have : k = 0 ∨ k = 1 ∨ k = 2 ∨ k = 3 ∨ k = 4 ∨ k = 5 := by omega
        rcases this with rfl | rfl | rfl | rfl | rfl | rfl
        · rw [show 1 + 0 = 1 from rfl, x1, upd_same]; exact n0
        · rw [show 1 + 1 = 2 from rfl, x2, upd_same]; exact n1
        · rw [show 1 + 2 = 3 from rfl, x3, upd_same]; exact n2
        · rw [show 1 + 3 = 4 from rfl, x4, upd_same]; exact n3
        · rw [show 1 + 4 = 5 from rfl, x5, upd_same]; exact n4
        · rw [show 1 + 5 = 6 from rfl, x6, upd_same]; exact n5
      · rw [old _ (by omega) (by omega), r7 d k (by omega) hk]
        have : k = 0 ∨ k = 1 ∨ k = 2 ∨ k = 3 ∨ k = 4 ∨ k = 5 := by omega
        rcases this with rfl | rfl | rfl | rfl | rfl | rfl
        · rw [show 1 + 0 = 1 from rfl, x1, upd_ne y]
        · rw [show 1 + 1 = 2 from rfl, x2, upd_ne y]
        · rw [show 1 + 2 = 3 from rfl, x3, upd_ne y]
        · rw [show 1 + 3 = 4 from rfl, x4, upd_ne y]
        · rw [show 1 + 4 = 5 from rfl, x5, upd_ne y]
        · rw [show 1 + 5 = 6 from rfl, x6, upd_ne y]
    · rw [old _ (by omega) (by omega), old _ (by omega) (by omega), x8, x9]; exact r8 g' hg
    · rw [old _ (by omega) (by omega), x10]; exact r9 k hk
    · rw [old _ (by omega) (by omega), x11]; exact r10 c hc
  have wf : Wf X (dc + 1) := by
    refine ⟨fun d hd' => ?_, fun c hc => ?_, ?_⟩
    · by_cases y : d = dc
      · subst y
        rw [x1, x5, x6, upd_same, upd_same, upd_same]
        exact ⟨⟨k1, by omega, rfl⟩, Or.inl rfl, 0, by omega, rfl⟩
      · rw [x1, x5, x6, upd_ne y, upd_ne y, upd_ne y]
        obtain ⟨a1, a2, a3⟩ := w.1 d (by omega)
        refine ⟨a1, ?_, a3⟩
        rcases a2 with q | ⟨e, q1, q2⟩
        · exact Or.inl q
        · exact Or.inr ⟨e, by omega, q2⟩
    · rw [x11, x1]
      rcases w.2.1 c hc with q | ⟨d, q1, q2, q3⟩
      · exact Or.inl q
      · exact Or.inr ⟨d, by omega, q2, by rw [upd_ne (by omega)]; exact q3⟩
    · rw [x10]; exact w.2.2
  have ap : Ap S X := fun c hc => by
    refine ⟨by rw [x11], ?_, ?_⟩
    · rw [x11, x5, at_upd (by omega) (pl c hc)]
    · unfold lastD
      rw [x11, x6, at_upd (by omega) (pl c hc)]
  refine ⟨rel, wf, fun e he hl => ?_, fun d hd' => ?_, fun d hd' => ?_, ?_, ?_⟩
  · obtain ⟨d, q1, q2⟩ := (lo_iff (by omega) rel.2.2.1).mp hl
    have hne : d ≠ dc := fun y => by
      rw [y, x5, upd_same] at q2
      exact nI_ne_neg (by omega) q2.symm
    rw [x5, upd_ne hne] at q2
    rcases (w.1 d (by omega)).2.1 with y | ⟨e', y1, y2⟩
    · rw [q2] at y; exact absurd y (nI_ne_neg (by omega))
    · have : e = e' := (nI_eq (by omega) (by omega)).mp (q2.symm.trans y2)
      subst this
      exact ap_snd ap (g e y1 ((lo_iff r1 r3).mpr ⟨d, by omega, q2⟩))
  · by_cases y : d = dc
    · subst y
      rw [x6, upd_same]; exact fun _ => rfl
    · rw [x5, x6, upd_ne y, upd_ne y]; exact x.1 d (by omega)
  · by_cases y : d = dc
    · subst y
      rw [x2, upd_same]; exact ⟨k2, h2, rfl⟩
    · rw [x2, upd_ne y]; exact x.2.1 d (by omega)
  · rw [x10]; exact x.2.2.1
  · obtain ⟨b, hb, eb, hw⟩ := hx
    refine (above_bl wf (by omega) (fun d hd' => ?_) hb (by rw [x10]; exact eb)).neg ?_
    · by_cases y : d = dc
      · subst y
        rw [x2, upd_same]; exact ⟨k2, h2, rfl⟩
      · rw [x2, upd_ne y]; exact x.2.1 d (by omega)
    · rintro ⟨wk, y1, y2⟩
      have h3 : WC X wk = WC S wk := sN_congr (fun c a b => by
        unfold kn kc
        rw [x11, x2, at_upd (by omega) (pl c (by omega))])
      have h4 := hw wk y1
      omega
theorem newGuest_sr (h : SR S z dc gc) (hd : gc < 6) : SR (f5_newGuest S).2 (upd (upd (upd z (77 + 2 * gc) 127) (77 + 2 * gc + 1) 0) 4 (nI gc + 1)) dc (gc + 1) := by
  obtain ⟨r, w, g, x⟩ := h
  obtain ⟨r1, r2, r3, r4, r5, r6, r7, r8, r9, r10⟩ := r
  obtain ⟨X, eX⟩ : ∃ X : Pic, (f5_newGuest S).2 = X := ⟨_, rfl⟩
  have x7 : X 7 0 = S 7 0 + 1 := by rw [← eX]; rfl
  have x8 : X 8 = upd (S 8) gc 127 := by rw [← eX, ← f6_put_nI (n := 6) hd (by omega), ← r4]; rfl
  have x9 : X 9 = upd (S 9) gc 0 := by rw [← eX, ← f6_put_nI (n := 6) hd (by omega), ← r4]; rfl
  have xo : ∀ k : Nat, k ≠ 7 → k ≠ 8 → k ≠ 9 → X k = S k := fun k a b c => by
    rw [← eX]
    show pset (pset (pset S 8 _) 9 _) 7 _ k = S k
    rw [pset_ne a, pset_ne c, pset_ne b]
  rw [eX]
  clear eX
  obtain ⟨R, eR⟩ : ∃ R : Nat → Int32, upd (upd (upd z (77 + 2 * gc) 127) (77 + 2 * gc + 1) 0) 4 (nI gc + 1) = R := ⟨_, rfl⟩
  have old : ∀ i : Nat, i ≠ 4 → (i < 77 + 2 * gc ∨ 77 + 2 * gc + 2 ≤ i) → R i = z i := fun i a b => by
    rw [← eR, upd_ne a, upd_ne (by omega), upd_ne (by omega)]
  have n0 : R (77 + 2 * gc) = 127 := by
    rw [← eR, upd_ne (by omega), upd_ne (by omega), upd_same]
  have n1 : R (77 + 2 * gc + 1) = 0 := by
    rw [← eR, upd_ne (by omega), upd_same]
  have nc : R 4 = nI (gc + 1) := by rw [← eR, upd_same, nI_1]
  rw [eR]
  clear eR
  have hag : Ag (pset (pset (pset X 7 (S 7)) 8 (S 8)) 9 (S 9)) S := by
    have e : pset (pset (pset X 7 (S 7)) 8 (S 8)) 9 (S 9) = S := by
      funext k
      by_cases y9 : k = 9
      · rw [y9, pset_same]
      · rw [pset_ne y9]
        by_cases y8 : k = 8
        · rw [y8, pset_same]
        · rw [pset_ne y8]
          by_cases y7 : k = 7
          · rw [y7, pset_same]
          · rw [pset_ne y7, xo k y7 y8 y9]
    rw [e]
    exact ⟨rfl, rfl, fun _ _ _ _ _ => rfl, fun _ _ _ _ _ => rfl, fun _ _ => rfl, fun _ _ => rfl⟩
  have rel : Rel X R dc (gc + 1) := by
    refine ⟨r1, by omega, by rw [xo 0 (by decide) (by decide) (by decide)]; exact r3, by rw [x7, r4, nI_1], by rw [old 3 (by omega) (by omega)]; exact r5, nc, fun d k hd' hk => ?_, fun g' hg => ?_, fun k hk => ?_, fun c hc => ?_⟩
    · rw [old _ (by omega) (by omega), xo (1 + k) (by omega) (by omega) (by omega)]; exact r7 d k hd' hk
    · by_cases y : g' = gc
      · subst y
        rw [x8, x9, upd_same, upd_same]; exact ⟨n0, n1⟩
      · rw [old _ (by omega) (by omega), old _ (by omega) (by omega), x8, x9, upd_ne y, upd_ne y]; exact r8 g' (by omega)
    · rw [old _ (by omega) (by omega), xo 10 (by decide) (by decide) (by decide)]; exact r9 k hk
    · rw [old _ (by omega) (by omega), xo 11 (by decide) (by decide) (by decide)]; exact r10 c hc
  have wf : Wf X dc := by
    unfold Wf
    rw [xo 1 (by decide) (by decide) (by decide), xo 5 (by decide) (by decide) (by decide), xo 6 (by decide) (by decide) (by decide), xo 10 (by decide) (by decide) (by decide), xo 11 (by decide) (by decide) (by decide)]
    exact w
  have ap : Ap S X := fun c hc => by
    unfold lastD
    rw [xo 5 (by decide) (by decide) (by decide), xo 6 (by decide) (by decide) (by decide), xo 11 (by decide) (by decide) (by decide)]
    exact ⟨rfl, rfl, rfl⟩
  refine ⟨rel, wf, fun e he hl => ?_, ?_⟩
  · obtain ⟨d, q1, q2⟩ := (lo_iff r1 rel.2.2.1).mp hl
    rw [xo 5 (by decide) (by decide) (by decide)] at q2
    exact ap_snd ap (g e he ((lo_iff r1 r3).mpr ⟨d, q1, q2⟩))
  · obtain ⟨b, hb, eb, hw⟩ := bx_wc w r1 x
    obtain ⟨b1, b2, b3, b4⟩ := x
    have b2' : ∀ d : Nat, d < dc → ∃ a : Nat, a ≤ 30 ∧ X 2 d = nI a := by rw [xo 2 (by decide) (by decide) (by decide)]; exact b2
    refine ⟨by rw [xo 5 (by decide) (by decide) (by decide), xo 6 (by decide) (by decide) (by decide)]; exact b1, b2', by rw [xo 10 (by decide) (by decide) (by decide)]; exact b3, ?_⟩
    refine (above_bl wf r1 b2' hb (by rw [xo 10 (by decide) (by decide) (by decide)]; exact eb)).neg ?_
    rintro ⟨wk, y1, y2⟩
    have h3 : WC X wk = WC S wk := sN_congr (fun c _ _ => by
      unfold kn kc
      rw [xo 2 (by decide) (by decide) (by decide), xo 11 (by decide) (by decide) (by decide)])
    have h4 := hw wk y1
    omega
end NEW
section ST2
variable {S G N T M : Pic} {Z : Nat → Pic}
theorem st_addDish (I : INV S G Z N T M) (p1 p2 p3 p4 : Int32) : ∃ c r S' G' Z' b M', f6_addDish S G Z p1 p2 p3 p4 = (c, r, S', G', Z') ∧ f7_addDish M p1 p2 p3 p4 = some (b, M') ∧ INV S' G' Z' N T M' ∧ an [2, 3] c r b M' := by
  obtain ⟨⟨dc, gc, sr⟩, hh, hn, ht⟩ := id I
  have h := sr.1
  have h3 : M 0 (ix (3 : Int32)) = nI dc := h.2.2.2.2.1
  rw [f6_addDish, f7_addDish]
  rcases wi_cs p1 (a := 0) (b := 2) (by omega) (by omega) with ⟨a, b⟩ | ⟨k1, -, hk1, rfl, a, b⟩
  · rw [if_pos (show f6_isWithin p1 0 2 = 0 from a), if_pos (show f7_isPart p1 = 0 from b)]
    exact ⟨2, 0, S, G, Z, 0, _, rfl, rfl, I.e6 e7, an.th 0 rfl p7⟩
  rw [if_neg (show ¬ f6_isWithin (nI k1) 0 2 = 0 by rw [show f6_isWithin (nI k1) 0 2 = 1 from a]; decide), if_neg (show ¬ f7_isPart (nI k1) = 0 by rw [show f7_isPart (nI k1) = 1 from b]; decide)]
  rcases wi_cs p2 (a := 0) (b := 30) (by omega) (by omega) with ⟨a, b⟩ | ⟨k2, -, hk2, rfl, a, b⟩
  · rw [if_pos (show f6_isWithin p2 0 30 = 0 from a), if_pos (show f7_within p2 0 30 = 0 from b)]
    exact ⟨2, 0, S, G, Z, 0, _, rfl, rfl, I.e6 e7, an.th 0 rfl p7⟩
  rw [if_neg (show ¬ f6_isWithin (nI k2) 0 30 = 0 by rw [show f6_isWithin (nI k2) 0 30 = 1 from a]; decide), if_neg (show ¬ f7_within (nI k2) 0 30 = 0 by rw [show f7_within (nI k2) 0 30 = 1 from b]; decide)]
  rcases wi_cs p3 (a := 0) (b := 5) (by omega) (by omega) with ⟨a, b⟩ | ⟨k3, -, hk3, rfl, a, b⟩
  · rw [if_pos (show f6_isWithin p3 0 5 = 0 from a), if_pos (show f7_within p3 0 5 = 0 from b)]
    exact ⟨2, 0, S, G, Z, 0, _, rfl, rfl, I.e6 e7, an.th 0 rfl p7⟩
  rw [if_neg (show ¬ f6_isWithin (nI k3) 0 5 = 0 by rw [show f6_isWithin (nI k3) 0 5 = 1 from a]; decide), if_neg (show ¬ f7_within (nI k3) 0 5 = 0 by rw [show f7_within (nI k3) 0 5 = 1 from b]; decide)]
  rcases wi_cs p4 (a := 1) (b := 9) (by omega) (by omega) with ⟨a, b⟩ | ⟨k4, -, hk4, rfl, a, b⟩
  · rw [if_pos (show f6_isWithin p4 1 9 = 0 from a), if_pos (show f7_within p4 1 9 = 0 from b)]
    exact ⟨2, 0, S, G, Z, 0, _, rfl, rfl, I.e6 e7, an.th 0 rfl p7⟩
  rw [if_neg (show ¬ f6_isWithin (nI k4) 1 9 = 0 by rw [show f6_isWithin (nI k4) 1 9 = 1 from a]; decide), if_neg (show ¬ f7_within (nI k4) 1 9 = 0 by rw [show f7_within (nI k4) 1 9 = 1 from b]; decide)]
  rw [h.2.2.1, h3]
  rcases Nat.lt_or_ge dc 12 with c | c
  · rw [if_pos (show nI dc < 12 from nI_lt (b := 12) c (by omega)), if_neg (show ¬ nI dc = 12 from fun z => by have := (nI_eq (b := 12) (by omega) (by omega)).mp z; omega)]
    obtain ⟨G', Z', M1, x1, x2, x3, x4⟩ := save_eq (M := pset M 7 (fun _ => (0 : Int32))) (S := S) (G := G) (Z := Z) sr hh
    have e0 : M1 0 = M 0 := x4 0 (by decide) (by decide)
    have e3 : M1 0 (ix (3 : Int32)) = nI dc := by rw [e0]; exact h3
    have ix3 : ix (3 : Int32) = 3 := rfl
    have e16 : (5 : Int32) + 6 * nI dc = nI (5 + 6 * dc) := by rw [show (6 : Int32) = nI 6 from rfl, show (5 : Int32) = nI 5 from rfl, pk_mul, nI_add]
    have q0 : nI (5 + 6 * dc) + 0 = nI (5 + 6 * dc) := Int32.add_zero _
    have q1 : nI (5 + 6 * dc) + 1 = nI (5 + 6 * dc + 1) := nI_1 _
    have q2 : nI (5 + 6 * dc) + 2 = nI (5 + 6 * dc + 2) := nI_add _ 2
    have q3 : nI (5 + 6 * dc) + 3 = nI (5 + 6 * dc + 3) := nI_add _ 3
    have q4 : nI (5 + 6 * dc) + 4 = nI (5 + 6 * dc + 4) := nI_add _ 4
    have q5 : nI (5 + 6 * dc) + 5 = nI (5 + 6 * dc + 5) := nI_add _ 5
    rw [x1, x2, ob1_some]
    simp only [bd2, bd, pset_same, e3, e16, q0, q1, q2, q3, q4, q5]
    rw [ck_nI (by omega) (by omega), ck_nI (by omega) (by omega), ck_nI (by omega) (by omega), ck_nI (by omega) (by omega), ck_nI (by omega) (by omega), ck_nI (by omega) (by omega)]
    rw [ix_nI (show 5 + 6 * dc < 2 ^ 31 by omega), ix_nI (show 5 + 6 * dc + 1 < 2 ^ 31 by omega), ix_nI (show 5 + 6 * dc + 2 < 2 ^ 31 by omega), ix_nI (show 5 + 6 * dc + 3 < 2 ^ 31 by omega), ix_nI (show 5 + 6 * dc + 4 < 2 ^ 31 by omega), ix_nI (show 5 + 6 * dc + 5 < 2 ^ 31 by omega)]
    have e3' : (upd (upd (upd (upd (upd (upd (M1 0) (5 + 6 * dc) (nI k1)) (5 + 6 * dc + 1) (nI k2)) (5 + 6 * dc + 2) (nI k3)) (5 + 6 * dc + 3) (nI k4)) (5 + 6 * dc + 4) (-1)) (5 + 6 * dc + 5) 0) (ix (3 : Int32)) = nI dc := by
      rw [ix3, upd_ne (by omega), upd_ne (by omega), upd_ne (by omega), upd_ne (by omega), upd_ne (by omega), upd_ne (by omega)]
      exact e3
    rw [e3']
    refine ⟨0, _, _, _, _, _, _, rfl, rfl, I.mk' (dc := dc + 1) (gc := gc) ?_ (hr_same x3 ?_ ?_) (fun j a b => ?_), Or.inl ⟨rfl, ?_, ?_⟩⟩
    · rw [pset_same, e0]
      exact newDish_sr sr c hk1 hk2
    · simp only [pset_ne (show (1 : Nat) ≠ 0 by decide)]
    · simp only [pset_ne (show (2 : Nat) ≠ 0 by decide)]
    · simp only [pset_ne (show j ≠ 0 by omega)]
      rw [x4 j (by omega) (by omega), pset_ne (by omega)]
    · simp only [pset_ne (show (7 : Nat) ≠ 0 by decide)]
      rw [x4 7 (by decide) (by decide), p7]
    · rw [ix3, upd_same, nI_1, nI_pred]
      exact h.2.2.1
  · have : dc = 12 := by have := h.1; omega
    rw [if_neg (show ¬ nI dc < 12 by rw [this]; decide), if_pos (show nI dc = 12 by rw [this]; rfl)]
    exact ⟨3, 0, S, G, Z, 0, _, rfl, rfl, I.e6 e7, an.th 1 rfl p7⟩
theorem st_addGuest (I : INV S G Z N T M) : ∃ c r S' G' Z' b M', f6_addGuest S G Z = (c, r, S', G', Z') ∧ f7_addGuest M = some (b, M') ∧ INV S' G' Z' N T M' ∧ an [3] c r b M' := by
  obtain ⟨⟨dc, gc, sr⟩, hh, hn, ht⟩ := id I
  have h := sr.1
  have h4 : M 0 (ix (4 : Int32)) = nI gc := h.2.2.2.2.2.1
  rw [f6_addGuest, f7_addGuest, h.2.2.2.1, h4]
  rcases Nat.lt_or_ge gc 6 with c | c
  · rw [if_pos (show nI gc < 6 from nI_lt (b := 6) c (by omega)), if_neg (show ¬ nI gc = 6 from fun z => by have := (nI_eq (b := 6) (by omega) (by omega)).mp z; omega)]
    obtain ⟨G', Z', M1, x1, x2, x3, x4⟩ := save_eq (M := pset M 7 (fun _ => (0 : Int32))) (S := S) (G := G) (Z := Z) sr hh
    have e0 : M1 0 = M 0 := x4 0 (by decide) (by decide)
    have e4 : M1 0 (ix (4 : Int32)) = nI gc := by rw [e0]; exact h4
    have ix4 : ix (4 : Int32) = 4 := rfl
    have e16 : (77 : Int32) + 2 * nI gc = nI (77 + 2 * gc) := by rw [show (2 : Int32) = nI 2 from rfl, show (77 : Int32) = nI 77 from rfl, pk_mul, nI_add]
    have q0 : nI (77 + 2 * gc) + 0 = nI (77 + 2 * gc) := Int32.add_zero _
    have q1 : nI (77 + 2 * gc) + 1 = nI (77 + 2 * gc + 1) := nI_1 _
    have e4' : upd (M1 0) (77 + 2 * gc) 127 (ix (4 : Int32)) = nI gc := by rw [ix4, upd_ne (by omega)]; exact e4
    have e4'' : upd (upd (M1 0) (77 + 2 * gc) 127) (77 + 2 * gc + 1) 0 (ix (4 : Int32)) = nI gc := by rw [ix4, upd_ne (by omega), upd_ne (by omega)]; exact e4
    have i0 : ix (nI (77 + 2 * gc)) = 77 + 2 * gc := ix_nI (by omega)
    have i1 : ix (nI (77 + 2 * gc + 1)) = 77 + 2 * gc + 1 := ix_nI (by omega)
    rw [x1, x2, ob1_some]
    simp only [bd2, bd, pset_same, e4, e16, q0, q1, i0, e4', i1, e4'']
    rw [ck_nI (by omega) (by omega), ck_nI (by omega) (by omega)]
    refine ⟨0, _, _, _, _, _, _, rfl, rfl, I.mk' (dc := dc) (gc := gc + 1) ?_ (hr_same x3 ?_ ?_) (fun j a b => ?_), Or.inl ⟨rfl, ?_, ?_⟩⟩
    · rw [pset_same, e0]
      exact newGuest_sr sr c
    · simp only [pset_ne (show (1 : Nat) ≠ 0 by decide)]
    · simp only [pset_ne (show (2 : Nat) ≠ 0 by decide)]
    · simp only [pset_ne (show j ≠ 0 by omega)]
      rw [x4 j (by omega) (by omega), pset_ne (by omega)]
    · simp only [pset_ne (show (7 : Nat) ≠ 0 by decide)]
      rw [x4 7 (by decide) (by decide), p7]
    · rw [ix4, upd_same, nI_1, nI_pred]
      exact h.2.2.2.1
  · have : gc = 6 := by have := h.2.1; omega
    rw [if_neg (show ¬ nI gc < 6 by rw [this]; decide), if_pos (show nI gc = 6 by rw [this]; rfl)]
    exact ⟨3, 0, S, G, Z, 0, _, rfl, rfl, I.e6 e7, an.th 0 rfl p7⟩
end ST2
