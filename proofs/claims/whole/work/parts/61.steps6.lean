/-- where the exchange of two days takes a cell from -/
def swp (a b c : Nat) : Nat := if c / 3 = a then 3 * b + c % 3 else if c / 3 = b then 3 * a + c % 3 else c
theorem swp_swp {a b c : Nat} : swp a b (swp a b c) = c := by
  unfold swp
  by_cases h1 : c / 3 = a
  · rw [if_pos h1]
    by_cases h2 : b = a
    · rw [if_pos (by omega)]; omega
    · rw [if_neg (by omega), if_pos (by omega)]; omega
  · rw [if_neg h1]
    by_cases h2 : c / 3 = b
    · rw [if_pos h2, if_pos (by omega)]; omega
    · rw [if_neg h2, if_neg h1, if_neg h2]
theorem swp_lt {a b c : Nat} (ha : a < 28) (hb : b < 28) (hc : c < 84) : swp a b c < 84 := by
  unfold swp
  by_cases h1 : c / 3 = a
  · rw [if_pos h1]; omega
  · rw [if_neg h1]
    by_cases h2 : c / 3 = b
    · rw [if_pos h2]; omega
    · rw [if_neg h2]; exact hc
theorem swp_mod {a b c : Nat} : swp a b c % 3 = c % 3 := by
  unfold swp
  by_cases h1 : c / 3 = a
  · rw [if_pos h1]; omega
  · rw [if_neg h1]
    by_cases h2 : c / 3 = b
    · rw [if_pos h2]; omega
    · rw [if_neg h2]
theorem putS_wfc {S : Pic} {dc x : Nat} {v : Int32} (w : Wf S dc) (hv : v = -1 ∨ ∃ d : Nat, d < dc ∧ v = nI d ∧ S 1 d = nI (x % 3)) : Wf (putS S x v) dc := by
  rcases hv with q | ⟨d, q1, q2, q3⟩
  · rw [q]; exact putS_wf0 w
  · rw [q2]; exact putS_wf w q1 q3
section EX
variable {S M : Pic} {dc gc a b : Nat}
theorem swap_loop (ha : a < 28) (hb : b < 28) : ∀ (n x : Nat) (S M : Pic) (K : Pic → Option Pic), x + n = 3 → Rel S (M 0) dc gc → Wf S dc → ∃ (S' M' : Pic), f5_exchangeMeals_L2 (nI a) (nI b) n (nI x) S (fun q => q) = S' ∧ f7_swap_L2 (nI a) (nI b) n (nI x) M K = K M' ∧ (∀ j : Nat, j ≠ 0 → M' j = M j) ∧ Rel S' (M' 0) dc gc ∧ Wf S' dc ∧ (∀ j : Nat, j ≠ 11 → S' j = S j) ∧ ∀ c : Nat, c < 84 → S' 11 c = if x ≤ c % 3 then S 11 (swp a b c) else S 11 c := by
  intro n
  induction n with
  | zero => intro x S M K hx h w; exact ⟨S, M, rfl, rfl, fun _ _ => rfl, h, w, fun _ _ => rfl, fun c hc => by rw [if_neg (by omega)]⟩
  | succ n ih =>
    intro x S M K hx h w
    have hxa : 3 * a + x < 84 := by omega
    have hxb : 3 * b + x < 84 := by omega
    rw [f5_exchangeMeals_L2, f7_swap_L2, if_neg (gq3 (by omega)), if_neg (gq3 (by omega)), h.at ha (by omega), ob1_some, h.at hb (by omega), ob1_some, f7_put_nI hxa, ob1_some, f7_put_nI hxb, ob1_some, f6_cellOf_nI, f6_cellOf_nI]
    simp only [bd]
    rw [f6_at_nI hxa (by omega), f6_at_nI hxb (by omega), f6_put_nI hxa (by omega), f6_put_nI hxb (by omega), nI_1]
    have w1 : Wf (putS S (3 * a + x) (S 11 (3 * b + x))) dc := putS_wfc w (by
      rw [show (3 * a + x) % 3 = (3 * b + x) % 3 by omega]; exact w.2.1 _ hxb)
    have w2 : Wf (putS (putS S (3 * a + x) (S 11 (3 * b + x))) (3 * b + x) (S 11 (3 * a + x))) dc := putS_wfc w1 (by
      rw [show (3 * b + x) % 3 = (3 * a + x) % 3 by omega, putS_ne (by decide)]; exact w.2.1 _ hxa)
    have h1 : Rel (putS S (3 * a + x) (S 11 (3 * b + x))) ((pset M 0 (upd (M 0) (89 + (3 * a + x)) (S 11 (3 * b + x)))) 0) dc gc := by rw [pset_same]; exact putS_rel h hxa
    have h2 : Rel (putS (putS S (3 * a + x) (S 11 (3 * b + x))) (3 * b + x) (S 11 (3 * a + x))) ((pset (pset M 0 (upd (M 0) (89 + (3 * a + x)) (S 11 (3 * b + x)))) 0 (upd ((pset M 0 (upd (M 0) (89 + (3 * a + x)) (S 11 (3 * b + x)))) 0) (89 + (3 * b + x)) (S 11 (3 * a + x)))) 0) dc gc := by rw [pset_same]; exact putS_rel h1 hxb
    obtain ⟨S', M', y1, y2, y3, y4, y5, y6, y7⟩ := ih (x + 1) _ _ K (by omega) h2 w2
    refine ⟨S', M', y1, y2, fun j hj => ?_, y4, y5, fun j hj => ?_, fun c hc => ?_⟩
    · rw [y3 j hj, pset_ne hj, pset_ne hj]
    · rw [y6 j hj, putS_ne hj, putS_ne hj]
    · rw [y7 c hc]
      rcases Nat.lt_trichotomy (c % 3) x with q | q | q
      · rw [if_neg (by omega), if_neg (by omega), putS_at (by omega), putS_at (by omega)]
      · rw [if_neg (by omega), if_pos (by omega)]
        unfold swp
        by_cases z1 : c = 3 * b + x
        · rw [z1, putS_x]
          by_cases z2 : (3 * b + x) / 3 = a
          · rw [if_pos z2, show 3 * a + x = 3 * b + (3 * b + x) % 3 by omega]
          · rw [if_neg z2, if_pos (by omega), show 3 * a + x = 3 * a + (3 * b + x) % 3 by omega]
        · rw [putS_at z1]
          by_cases z2 : c = 3 * a + x
          · rw [z2, putS_x, if_pos (by omega), show 3 * b + x = 3 * b + (3 * a + x) % 3 by omega]
          · rw [putS_at z2, if_neg (by omega), if_neg (by omega)]
      · have hs : swp a b c % 3 = c % 3 := swp_mod
        rw [if_pos (by omega), if_pos (by omega), putS_at (by omega), putS_at (by omega)]
theorem swap_eq (ha : a < 28) (hb : b < 28) (h : Rel S (M 0) dc gc) (w : Wf S dc) : ∃ M' : Pic, f7_swap M (nI a) (nI b) = some M' ∧ (∀ j : Nat, j ≠ 0 → M' j = M j) ∧ Rel (f5_exchangeMeals S (nI a) (nI b)) (M' 0) dc gc ∧ Wf (f5_exchangeMeals S (nI a) (nI b)) dc ∧ (∀ j : Nat, j ≠ 11 → f5_exchangeMeals S (nI a) (nI b) j = S j) ∧ ∀ c : Nat, c < 84 → f5_exchangeMeals S (nI a) (nI b) 11 c = S 11 (swp a b c) := by
  obtain ⟨S', M', y1, y2, y3, y4, y5, y6, y7⟩ := swap_loop (dc := dc) (gc := gc) ha hb 3 0 S M (fun M_2 => some M_2) rfl h w
  have e : f5_exchangeMeals S (nI a) (nI b) = S' := y1
  rw [e]
  exact ⟨M', y2, y3, y4, y5, y6, fun c hc => by rw [y7 c hc, if_pos (Nat.zero_le _)]⟩
end EX
theorem ag_trans {S S' S'' : Pic} (h : Ag S S') (h' : Ag S' S'') : Ag S S'' := by
  obtain ⟨a1, a2, a3, a4, a5, a6⟩ := h
  obtain ⟨b1, b2, b3, b4, b5, b6⟩ := h'
  exact ⟨b1.trans a1, b2.trans a2, fun k d x y z => (b3 k d x y z).trans (a3 k d x y z), fun k g x y z => (b4 k g x y z).trans (a4 k g x y z), fun k x => (b5 k x).trans (a5 k x), fun c x => (b6 c x).trans (a6 c x)⟩
section ST6
variable {S G N T M : Pic} {Z : Nat → Pic}
/-- a plan taken over, that was found good -/
theorem good_sr {S X : Pic} {z z' : Nat → Int32} {dc gc : Nat} (s : SR S z dc gc) (h : Rel X z' dc gc) (w : Wf X dc) (g : gd X dc) (a : f5_isAboveBudget X = 0) (hx : ∀ d : Nat, d < dc → X 5 d = S 5 d ∧ X 6 d = S 6 d ∧ X 2 d = S 2 d) (h10 : X 10 2 = S 10 2) : SR X z' dc gc := by
  refine ⟨h, w, g, fun d hd q => ?_, fun d hd => ?_, ?_, a⟩
  · obtain ⟨e1, e2, e3⟩ := hx d hd
    rw [e2]; rw [e1] at q; exact s.2.2.2.1 d hd q
  · obtain ⟨e1, e2, e3⟩ := hx d hd
    rw [e3]; exact s.2.2.2.2.1 d hd
  · rw [h10]; exact s.2.2.2.2.2.1
theorem st_exchange (I : INV S G Z N T M) (R Y : Pic) (p1 p2 : Int32) : ∃ c r S' R' Y' G' Z' b M', f6_exchange S R Y G Z p1 p2 = (c, r, S', R', Y', G', Z') ∧ f7_exchange M p1 p2 = some (b, M') ∧ INV S' G' Z' N T M' ∧ an [1, 3] c r b M' := by
  obtain ⟨⟨dc, gc, sr⟩, hh, hn, ht⟩ := id I
  have h := sr.1
  have hdc := h.1
  rw [f6_exchange, f7_exchange]
  rcases day_cs p1 with ⟨x, y⟩ | ⟨a, ha, rfl, x, y⟩
  · rw [if_pos x, if_pos y]
    exact ⟨1, 0, S, R, Y, G, Z, 0, _, rfl, rfl, I.e6 e7, an.th 0 rfl p7⟩
  rw [if_neg (ne0 x), if_neg (ne0 y)]
  rcases day_cs p2 with ⟨x, y⟩ | ⟨b, hb, rfl, x, y⟩
  · rw [if_pos x, if_pos y]
    exact ⟨1, 0, S, R, Y, G, Z, 0, _, rfl, rfl, I.e6 e7, an.th 0 rfl p7⟩
  rw [if_neg (ne0 x), if_neg (ne0 y)]
  -- the model: there, test, and back
  have s' : SR S ((pset M 7 (fun _ => (0 : Int32))) 0) dc gc := sr
  obtain ⟨M1, x1, x2, x3, x4, x5, x6⟩ := swap_eq ha hb s'.1 s'.2.1
  have hagE : Ag (f5_exchangeMeals S (nI a) (nI b)) (f5_exchangeMeals (f5_copyFrom R S) (nI a) (nI b)) := by
    have hc := copy_ag R S
    have hcr := ag_sr hc sr
    obtain ⟨-, -, -, -, -, z5, z6⟩ := swap_eq (M := fun _ => M 0) ha hb hcr.1 hcr.2.1
    obtain ⟨a1, a2, a3, a4, a5, a6⟩ := hc
    refine ⟨?_, ?_, fun k e q1 q2 q3 => ?_, fun k e q1 q2 q3 => ?_, fun k q => ?_, fun c hc => ?_⟩
    · rw [z5 0 (by decide), x5 0 (by decide)]; exact a1
    · rw [z5 7 (by decide), x5 7 (by decide)]; exact a2
    · rw [z5 k (by omega), x5 k (by omega)]; exact a3 k e q1 q2 q3
    · rw [z5 k (by omega), x5 k (by omega)]; exact a4 k e q1 q2 q3
    · rw [z5 10 (by decide), x5 10 (by decide)]; exact a5 k q
    · rw [z6 c hc, x6 c hc]
      exact a6 _ (swp_lt ha hb hc)
  obtain ⟨X, eX⟩ : ∃ X : Pic, f5_exchangeMeals (f5_copyFrom R S) (nI a) (nI b) = X := ⟨_, rfl⟩
  rw [eX] at hagE
  have hX : Rel X (M1 0) dc gc := ag_rel hagE x3
  have wX : Wf X dc := ag_wf hagE hdc x4
  obtain ⟨r, Y', M2, g1, g2, g3, g4⟩ := isGood_eq Y hX wX
  have hX2 : Rel (f5_exchangeMeals S (nI a) (nI b)) (M2 0) dc gc := by rw [g3.zero]; exact x3
  obtain ⟨M3, t1, t2, t3, t4, t5, t6⟩ := swap_eq ha hb hX2 x4
  have back : Rel S (M3 0) dc gc := by
    refine ag_rel (S := f5_exchangeMeals (f5_exchangeMeals S (nI a) (nI b)) (nI a) (nI b)) ?_ t3
    refine ⟨?_, ?_, fun k e q1 q2 q3 => ?_, fun k e q1 q2 q3 => ?_, fun k q => ?_, fun c hc => ?_⟩
    · rw [t5 0 (by decide), x5 0 (by decide)]
    · rw [t5 7 (by decide), x5 7 (by decide)]
    · rw [t5 k (by omega), x5 k (by omega)]
    · rw [t5 k (by omega), x5 k (by omega)]
    · rw [t5 10 (by decide), x5 10 (by decide)]
    · rw [t6 c hc, x6 _ (swp_lt ha hb hc), swp_swp]
  have e3 : ∀ j : Nat, 1 ≤ j → j ≤ 7 → M3 j = (pset M 7 (fun _ => (0 : Int32))) j := fun j q1 q2 => by
    rw [t2 j (by omega), g3 j (by omega) (by omega), x2 j (by omega)]
  have I3 : INV S G Z N T M3 := by
    refine I.mk' (dc := dc) (gc := gc) ⟨back, sr.2⟩ (hr_same hh ?_ ?_) (fun j q1 q2 => ?_)
    · rw [e3 1 (by omega) (by omega), pset_ne (by decide)]
    · rw [e3 2 (by omega) (by omega), pset_ne (by decide)]
    · rw [e3 j (by omega) (by omega), pset_ne (by omega)]
  rw [bd_eq, eX, bd_eq, g1, bd2_eq, f7_goodSwapped, x1, ob1_some, g2, ob2_some, t1, ob1_some, ob2_some]
  by_cases c2 : r = 0
  · rw [if_pos c2, if_pos c2]
    exact ⟨3, 0, S, X, Y', G, Z, 0, _, rfl, rfl, I3.e6 e7, an.th 1 rfl p7⟩
  rw [if_neg c2, if_neg c2]
  have I4 : INV S G Z N T (pset M3 7 (fun _ => (0 : Int32))) := I3.e6 e7
  obtain ⟨G', Z', M4, z1, z2, z3, z4⟩ := take_over X (S := S) (G := G) (Z := Z) (M := pset M3 7 (fun _ => (0 : Int32))) (dc := dc) (gc := gc) ⟨back, sr.2⟩ I4.2.1
  have e40 : M4 0 = M3 0 := (z4 0 (by decide) (by decide)).trans (pset_ne (by decide))
  have s4 : SR S (M4 0) dc gc := by rw [e40]; exact ⟨back, sr.2⟩
  obtain ⟨M5, u1, u2, u3, u4, u5, u6⟩ := swap_eq ha hb s4.1 s4.2.1
  have hXf : Ag (f5_exchangeMeals S (nI a) (nI b)) (f5_copyFrom S X) := ag_trans hagE (copy_ag S X)
  have sE : SR (f5_exchangeMeals S (nI a) (nI b)) (M5 0) dc gc := by
    refine good_sr s4 u3 u4 (ag_gd (ag_symm hagE) hdc hX.2.2.1 (g4 c2).1) ?_ (fun d hd => ?_) ?_
    · rw [← above_rel x3 x4 hX wX]; exact (g4 c2).2
    · rw [u5 5 (by decide), u5 6 (by decide), u5 2 (by decide)]; exact ⟨rfl, rfl, rfl⟩
    · rw [u5 10 (by decide)]
  have sF' : SR (f5_copyFrom S X) (M5 0) dc gc := ag_sr hXf sE
  rw [z1, bd3_eq, bd_eq, z2, ob1_some, u1, ob1_some, joyOfAll_eq sF'.1 sF'.2.1, ob1_some]
  refine ⟨0, _, _, _, _, _, _, _, _, rfl, rfl, I.mk' (dc := dc) (gc := gc) sF' (hr_same z3 ?_ ?_) (fun j q1 q2 => ?_), Or.inl ⟨rfl, ?_, rfl⟩⟩
  · rw [u2 1 (by decide)]
  · rw [u2 2 (by decide)]
  · rw [u2 j (by omega), z4 j (by omega) (by omega), pset_ne (by omega), e3 j (by omega) (by omega), pset_ne (by omega)]
  · rw [u2 7 (by decide), z4 7 (by decide) (by decide), p7]
theorem clear_loop : ∀ (n i : Nat) (M : Pic) (K : Pic → Option (Int32 × Pic)), i + n = 84 → ∃ M' : Pic, f7_clear_L16 n (nI i) M K = K M' ∧ (∀ j : Nat, j ≠ 0 → M' j = M j) ∧ (∀ c : Nat, i ≤ c → c < 84 → M' 0 (89 + c) = -1) ∧ (∀ q : Nat, q < 89 + i → M' 0 q = M 0 q) := by
  intro n
  induction n with
  | zero => intro i M K hi; exact ⟨M, rfl, fun _ _ => rfl, fun c a b => by omega, fun _ _ => rfl⟩
  | succ n ih =>
    intro i M K hi
    have e2 : (89 : Int32) + nI i = nI (89 + i) := by rw [show (89 : Int32) = nI 89 from rfl, nI_add]
    rw [f7_clear_L16, if_neg (gq84 (by omega)), e2, ck_nI (by omega) (by omega), ix_nI (by omega), nI_1]
    simp only [bd]
    obtain ⟨M', x1, x2, x3, x4⟩ := ih (i + 1) (pset M 0 (upd (M 0) (89 + i) (-1))) K (by omega)
    refine ⟨M', x1, fun j hj => (x2 j hj).trans (pset_ne hj), fun c a b => ?_, fun q a => ?_⟩
    · rcases Nat.lt_or_ge c (i + 1) with y | y
      · rw [x4 (89 + c) (by omega), pset_same, show c = i by omega, upd_same]
      · exact x3 c y b
    · rw [x4 q (by omega), pset_same, upd_ne (by omega)]
theorem st_clear (I : INV S G Z N T M) : ∃ r S' G' Z' M', f6_clear S G Z = (r, S', G', Z') ∧ f7_clear M = some (r, M') ∧ INV S' G' Z' N T M' := by
  obtain ⟨⟨dc, gc, sr⟩, hh, hn, ht⟩ := id I
  have h := sr.1
  have w := sr.2.1
  obtain ⟨G', Z', M1, x1, x2, x3, x4⟩ := save_eq (S := S) (G := G) (Z := Z) (M := pset M 7 (fun _ => (0 : Int32))) (dc := dc) (gc := gc) sr hh
  have e10 : M1 0 = M 0 := x4 0 (by decide) (by decide)
  have h1 : Rel S (M1 0) dc gc := by rw [e10]; exact h
  obtain ⟨M2, y1, y2, y3, y4⟩ := clear_loop 84 0 M1 (fun M_16 => some (f5_planCount S, M_16)) rfl
  rw [f6_clear, f7_clear, x2, ob1_some, dishesInPlan_eq h1, ob1_some, bd_eq, x1, bd2_eq, bd_eq]
  refine ⟨_, _, _, _, M2, rfl, y1, I.mk' (dc := dc) (gc := gc) ?_ (hr_same x3 (y2 1 (by decide)) (y2 2 (by decide))) (fun j q1 q2 => ?_)⟩
  · obtain ⟨X, eX⟩ : ∃ X : Pic, pset S 11 (fJ7_fill_53178 84 (S 11) (-1)) = X := ⟨_, rfl⟩
    have xo : ∀ k : Nat, k ≠ 11 → X k = S k := fun k hk => by rw [← eX, pset_ne hk]
    have x11 : ∀ c : Nat, c < 84 → X 11 c = -1 := fun c hc => by
      rw [← eX, pset_same]
      unfold fJ7_fill_53178; rw [if_pos hc]
    rw [eX]
    have wX : Wf X dc := by
      refine ⟨?_, fun c hc => Or.inl (x11 c hc), ?_⟩
      · rw [xo 1 (by decide), xo 5 (by decide), xo 6 (by decide)]; exact w.1
      · rw [xo 10 (by decide)]; exact w.2.2
    obtain ⟨r1, r2, r3, r4, r5, r6, r7, r8, r9, r10⟩ := h1
    refine ⟨⟨r1, r2, ?_, ?_, ?_, ?_, fun d k hd hk => ?_, fun g hg => ?_, fun k hk => ?_, fun c hc => ?_⟩, wX, fun e he hl k hk hs => ?_, ?_⟩
    · rw [xo 0 (by decide)]; exact r3
    · rw [xo 7 (by decide)]; exact r4
    · rw [y4 3 (by omega)]; exact r5
    · rw [y4 4 (by omega)]; exact r6
    · rw [y4 _ (by omega), xo (1 + k) (by omega)]; exact r7 d k hd hk
    · rw [y4 _ (by omega), y4 _ (by omega), xo 8 (by decide), xo 9 (by decide)]; exact r8 g hg
    · rw [y4 _ (by omega), xo 10 (by decide)]; exact r9 k hk
    · rw [y3 c (Nat.zero_le _) hc, x11 c hc]
    · rw [x11 k hk] at hs
      exact absurd hs.symm (nI_ne_neg (by omega))
    · refine bx_less w wX r1 sr.2.2.2 xo (fun c hc => ?_)
      have : kn X c = 0 := by
        unfold kn kc
        rw [x11 c hc, if_pos rfl]; rfl
      rw [this]; exact Nat.zero_le _
  · rw [y2 j (by omega), x4 j (by omega) (by omega), pset_ne (by omega)]
theorem fillD_loop {dc gc d : Nat} (hd : d < 28) : ∀ (n p : Nat) (cnt : Int32) (S Y M : Pic), p + n = 3 → SR S (M 0) dc gc → ∃ (cnt' : Int32) (S' Y' M' : Pic), f6_fill_L32 (nI d) n cnt (nI p) S Y G Z (fun x2_32 S_32 Y_32 G_32 Z_32 => (some ((0 : Int32), x2_32, S_32, Y_32, G_32, Z_32))) = some (0, cnt', S', Y', G, Z) ∧ f7_fill_L33 (nI d) n cnt (nI p) M (fun x2_33 M_33 => (some (x2_33, M_33))) = some (cnt', M') ∧ SR S' (M' 0) dc gc ∧ ∀ j : Nat, 1 ≤ j → j ≤ 7 → M' j = M j := by
  intro n
  induction n with
  | zero => intro p cnt S Y M hp s; exact ⟨cnt, S, Y, M, rfl, rfl, s, fun _ _ _ => rfl⟩
  | succ n ih =>
    intro p cnt S Y M hp s
    have hx : 3 * d + p < 84 := by omega
    obtain ⟨r, Y1, M1, x1, x2, x3, x4⟩ := bestFor_eq Y s.1 s.2.1 s.2.2.1 hd (show p < 3 by omega)
    have s1 : SR S (M1 0) dc gc := by rw [x3.zero]; exact s
    rw [f6_fill_L32, f7_fill_L33, if_neg (gq3 (by omega)), if_neg (gq3 (by omega)), x1, x2, ob2_some]
    simp only [ob3, Option.bind_some]
    by_cases c : r = -1
    · rw [if_pos c, if_pos c, nI_1]
      obtain ⟨cnt', S', Y', M', y1, y2, y3, y4⟩ := ih (p + 1) cnt S Y1 M1 (by omega) s1
      exact ⟨cnt', S', Y', M', y1, y2, y3, fun j q1 q2 => (y4 j q1 q2).trans (x3 j (by omega) (by omega))⟩
    · rcases x4 with q | ⟨e, he, rfl, ho⟩
      · exact absurd q c
      · rw [if_neg c, if_neg c, f7_put_nI hx, ob1_some, nI_1, f6_cellOf_nI, f6_put_nI hx (by omega), bd_eq]
        have s2 : SR (putS S (3 * d + p) (nI e)) ((pset M1 0 (upd (M1 0) (89 + (3 * d + p)) (nI e))) 0) dc gc := by rw [pset_same]; exact put_sr s1 hx he (by omega) ho
        obtain ⟨cnt', S', Y', M', y1, y2, y3, y4⟩ := ih (p + 1) (cnt + 1) _ Y1 _ (by omega) s2
        exact ⟨cnt', S', Y', M', y1, y2, y3, fun j q1 q2 => by rw [y4 j q1 q2, pset_ne (by omega)]; exact x3 j (by omega) (by omega)⟩
theorem st_fill (I : INV S G Z N T M) (Y : Pic) (p1 : Int32) : ∃ c r S' Y' G' Z' b M', f6_fill S Y G Z p1 = some (c, r, S', Y', G', Z') ∧ f7_fill M p1 = some (b, M') ∧ INV S' G' Z' N T M' ∧ an [1] c r b M' := by
  obtain ⟨⟨dc, gc, sr⟩, hh, hn, ht⟩ := id I
  rw [f6_fill, f7_fill]
  rcases day_cs p1 with ⟨x, y⟩ | ⟨d, hd, rfl, x, y⟩
  · rw [if_pos x, if_pos y]
    exact ⟨1, 0, S, Y, G, Z, 0, _, rfl, rfl, I.e6 e7, an.th 0 rfl p7⟩
  obtain ⟨G', Z', M1, x1, x2, x3, x4⟩ := save_eq (S := S) (G := G) (Z := Z) (M := pset M 7 (fun _ => (0 : Int32))) (dc := dc) (gc := gc) sr hh
  have e10 : M1 0 = M 0 := x4 0 (by decide) (by decide)
  obtain ⟨cnt', S', Y', M', y1, y2, y3, y4⟩ := fillD_loop (G := G') (Z := Z') (dc := dc) (gc := gc) hd 3 0 0 S Y M1 rfl (by rw [e10]; exact sr)
  rw [if_neg (ne0 x), if_neg (ne0 y), x1, bd2_eq, x2, ob1_some]
  refine ⟨0, cnt', S', Y', G', Z', cnt', M', y1, y2, I.mk' (dc := dc) (gc := gc) y3 (hr_same x3 (y4 1 (by omega) (by omega)) (y4 2 (by omega) (by omega))) (fun j q1 q2 => ?_), Or.inl ⟨rfl, ?_, rfl⟩⟩
  · rw [y4 j (by omega) (by omega), x4 j (by omega) (by omega), pset_ne (by omega)]
  · rw [y4 7 (by omega) (by omega), x4 7 (by decide) (by decide), p7]
end ST6
