section ST3
variable {S G N T M : Pic} {Z : Nat → Pic}
theorem INV.sr0 (I : INV S G Z N T M) : ∃ dc gc : Nat, SR S (M 0) dc gc := I.1
theorem st_append (I : INV S G Z N T M) (p1 : Int32) : ∃ c r T' b M', f6_append T p1 = (c, r, T') ∧ f7_append M p1 = some (b, M') ∧ INV S G Z N T' M' ∧ an [2, 3] c r b M' := by
  obtain ⟨s, hh, hn, L, hL, t1, m5, hc⟩ := id I
  rw [f6_append, f7_append]
  rcases wi_cs p1 (a := 33) (b := 126) (by omega) (by omega) with ⟨a, b⟩ | ⟨k1, hk0, hk1, rfl, a, b⟩
  · rw [if_pos (show f6_isWithin p1 33 126 = 0 from a), if_pos (show f7_within p1 33 126 = 0 from b)]
    exact ⟨2, 0, T, 0, _, rfl, rfl, I.e6 e7, an.th 0 rfl p7⟩
  rw [if_neg (show ¬ f6_isWithin (nI k1) 33 126 = 0 by rw [show f6_isWithin (nI k1) 33 126 = 1 from a]; decide), if_neg (show ¬ f7_within (nI k1) 33 126 = 0 by rw [show f7_within (nI k1) 33 126 = 1 from b]; decide), t1, m5]
  rcases Nat.lt_or_ge L 60 with c | c
  · rw [if_pos (show nI L < 60 from nI_lt (b := 60) c (by omega)), if_neg (show ¬ nI L = 60 from fun z => by have := (nI_eq (b := 60) (by omega) (by omega)).mp z; omega), ck_nI c (by omega), f3_addCode, t1, f6_put_nI c (by omega), ix_nI (by omega)]
    simp only [bd]
    refine ⟨0, _, _, _, _, rfl, rfl, ⟨s, hh, hn, L + 1, by omega, ?_, ?_, fun i hi => ?_⟩, Or.inl ⟨rfl, rfl, ?_⟩⟩
    · rw [pset_same, pset_ne (by decide), t1, nI_1]
    · rw [pset_same, pset_ne (by decide), pset_ne (by decide), m5, nI_1]
    · rw [pset_ne (show (0 : Nat) ≠ 1 by decide), pset_same, pset_ne (show (6 : Nat) ≠ 5 by decide), pset_ne (show (6 : Nat) ≠ 7 by decide), pset_same]
      by_cases y : i = L
      · rw [y, upd_same, upd_same]; exact ⟨rfl, k1, hk0, hk1, rfl⟩
      · rw [upd_ne y, upd_ne y]; exact hc i (by omega)
    · rw [pset_same, pset_same, pset_ne (by decide), pset_ne (by decide), pset_ne (by decide), t1, m5]
  · have : L = 60 := by omega
    rw [if_neg (show ¬ nI L < 60 by rw [this]; decide), if_pos (show nI L = 60 by rw [this]; rfl)]
    exact ⟨3, 0, T, 0, _, rfl, rfl, I.e6 e7, an.th 1 rfl p7⟩
theorem st_clearBuffer (I : INV S G Z N T M) : ∃ r T' M', f6_clearBuffer T = (r, T') ∧ f7_clearBuffer M = some (r, M') ∧ INV S G Z N T' M' := by
  obtain ⟨s, hh, hn, L, hL, t1, m5, hc⟩ := id I
  rw [f6_clearBuffer, f7_clearBuffer, t1, m5, f3_makeEmpty]
  simp only [bd]
  refine ⟨_, _, _, rfl, rfl, s, hh, hn, 0, by omega, ?_, ?_, fun i hi => by omega⟩
  · rw [pset_same]; rfl
  · rw [pset_ne (by decide), pset_same]; rfl
theorem st_undo (I : INV S G Z N T M) : ∃ c r S' G' b M', f6_undo S G Z = (c, r, S', G') ∧ f7_undo M = some (b, M') ∧ INV S' G' Z N T M' ∧ an [3] c r b M' := by
  obtain ⟨s, ⟨o, n, ho, hn6, g1, g2, m1, hr⟩, hn, ht⟩ := id I
  rw [f6_undo, f7_undo, g2, m1]
  rcases Nat.eq_zero_or_pos n with c | c
  · rw [if_pos (show nI n = 0 by rw [c]; rfl), if_pos (show nI n ≤ 0 by rw [c]; decide)]
    exact ⟨3, 0, S, G, 0, _, rfl, rfl, I.e6 e7, an.th 0 rfl p7⟩
  · obtain ⟨q, rfl⟩ : ∃ q, n = q + 1 := ⟨n - 1, by omega⟩
    have g2' : G 2 0 - 1 = nI q := by rw [g2]; exact nI_pred q
    rw [if_neg (nI_ne0 c (by omega)), if_neg (nI_nle c (by omega)), f0_bringBack, g2', placeOf_eq ho (by omega) g1]
    simp only [mtq, bd, bd2]
    rw [ix_nI (by have := Nat.mod_lt (o + q) (show 0 < 6 by omega); omega), show nI (q + 1) - 1 = nI q from nI_pred q]
    obtain ⟨M1, x1, x2, x3, x4⟩ := undo_row (s := q) (by omega) (α := Nat) 173 0 (pset (pset M 1 (fun _ => nI q)) 7 (fun _ => 0)) (fun M_37 => some (M_37 1 0, M_37)) rfl (by rw [pset_ne (by decide), pset_same])
    have e11 : M1 1 0 = nI q := by rw [x2 1 (by decide), pset_ne (by decide), pset_same]
    obtain ⟨dc, gc, hs⟩ := hr q (by omega)
    refine ⟨0, _, _, _, _, M1, rfl, x1, I.mk' (dc := dc) (gc := gc) ?_ ?_ (fun j a b => ?_), Or.inl ⟨rfl, ?_, ?_⟩⟩
    · refine ag_sr (copy_ag _ _) (sr_row hs fun k hk => ?_)
      rw [x3 k (by omega) hk, pset_ne (by decide), pset_ne (by decide)]
    · refine ⟨o, q, ho, by omega, ?_, ?_, e11, fun r hr2 => ?_⟩
      · rw [pset_ne (by decide)]; exact g1
      · rw [pset_same]
      · rw [x2 2 (by decide), pset_ne (by decide), pset_ne (by decide)]
        exact hr r (by omega)
    · rw [x2 j (by omega), pset_ne (by omega), pset_ne (by omega)]
    · rw [x2 7 (by decide), pset_same]
    · rw [pset_same, e11]
theorem keep_loop {k : Nat} (hk : k < 2) {f : Nat → Int32} : ∀ (n i : Nat) (N : Pic) (K : Pic → Pic), i + n = 84 → ∃ N' : Pic, f4_keep_L2 84 f (nI k) n (nI i) N K = K N' ∧ (∀ j : Nat, j ≠ 0 → N' j = N j) ∧ (∀ c : Nat, i ≤ c → c < 84 → N' 0 (84 * k + c) = f c) ∧ (∀ q : Nat, (q < 84 * k + i ∨ 84 * k + 84 ≤ q) → N' 0 q = N 0 q) := by
  intro n
  induction n with
  | zero => intro i N K hi; exact ⟨N, rfl, fun _ _ => rfl, fun c a b => by omega, fun _ _ => rfl⟩
  | succ n ih =>
    intro i N K hi
    have e1 : nI k * 84 + nI i = nI (84 * k + i) := by rw [show (84 : Int32) = nI 84 from rfl, pk_mul, nI_add, Nat.mul_comm]
    rw [f4_keep_L2, if_neg (gq84 (by omega)), e1, f6_put_nI (by omega) (by omega), f6_at_nI (show i < 84 by omega) (by omega), nI_1]
    simp only [bd]
    obtain ⟨N', x1, x2, x3, x4⟩ := ih (i + 1) (pset N 0 (upd (N 0) (84 * k + i) (f i))) K (by omega)
    refine ⟨N', x1, fun j hj => (x2 j hj).trans (pset_ne hj), fun c a b => ?_, fun q a => ?_⟩
    · rcases Nat.lt_or_ge c (i + 1) with y | y
      · rw [x4 (84 * k + c) (Or.inl (by omega)), pset_same, show c = i by omega, upd_same]
      · exact x3 c y b
    · rw [x4 q (by omega), pset_same, upd_ne (by omega)]
theorem takeM_loop {k : Nat} (hk : k < 2) : ∀ (n i : Nat) (M : Pic) (K : Pic → Option (Int32 × Pic)), i + n = 84 → ∃ M' : Pic, f7_take_L34 (nI k) n (nI i) M K = K M' ∧ (∀ j : Nat, j ≠ 3 → M' j = M j) ∧ (∀ c : Nat, i ≤ c → c < 84 → M' 3 (84 * k + c) = M 0 (89 + c)) ∧ (∀ q : Nat, (q < 84 * k + i ∨ 84 * k + 84 ≤ q) → M' 3 q = M 3 q) := by
  intro n
  induction n with
  | zero => intro i M K hi; exact ⟨M, rfl, fun _ _ => rfl, fun c a b => by omega, fun _ _ => rfl⟩
  | succ n ih =>
    intro i M K hi
    have e1 : (84 : Int32) * nI k + nI i = nI (84 * k + i) := by rw [show (84 : Int32) = nI 84 from rfl, pk_mul, nI_add]
    have e2 : (89 : Int32) + nI i = nI (89 + i) := by rw [show (89 : Int32) = nI 89 from rfl, nI_add]
    rw [f7_take_L34, if_neg (gq84 (by omega)), e1, e2, ck_nI (by omega) (by omega), ck_nI (by omega) (by omega), ix_nI (by omega), ix_nI (by omega), nI_1]
    simp only [bd]
    obtain ⟨M', x1, x2, x3, x4⟩ := ih (i + 1) (pset M 3 (upd (M 3) (84 * k + i) (M 0 (89 + i)))) K (by omega)
    refine ⟨M', x1, fun j hj => (x2 j hj).trans (pset_ne hj), fun c a b => ?_, fun q a => ?_⟩
    · rcases Nat.lt_or_ge c (i + 1) with y | y
      · rw [x4 (84 * k + c) (Or.inl (by omega)), pset_same, show c = i by omega, upd_same]
      · rw [x3 c y b, pset_ne (by decide)]
    · rw [x4 q (by omega), pset_same, upd_ne (by omega)]
theorem st_take (I : INV S G Z N T M) (p1 : Int32) : ∃ c r N' b M', f6_take S N p1 = (c, r, N') ∧ f7_take M p1 = some (b, M') ∧ INV S G Z N' T M' ∧ an [1] c r b M' := by
  obtain ⟨⟨dc, gc, sr⟩, hh, hn, ht⟩ := id I
  rw [f6_take, f7_take]
  rcases wi_cs p1 (a := 0) (b := 1) (by omega) (by omega) with ⟨a, b⟩ | ⟨k, -, hk, rfl, a, b⟩
  · rw [if_pos (show f6_isWithin p1 0 1 = 0 from a), if_pos (show f7_isSnapshot p1 = 0 from b)]
    exact ⟨1, 0, N, 0, _, rfl, rfl, I.e6 e7, an.th 0 rfl p7⟩
  rw [if_neg (show ¬ f6_isWithin (nI k) 0 1 = 0 by rw [show f6_isWithin (nI k) 0 1 = 1 from a]; decide), if_neg (show ¬ f7_isSnapshot (nI k) = 0 by rw [show f7_isSnapshot (nI k) = 1 from b]; decide), ck_nI (by omega) (by omega), ix_nI (by omega)]
  have hk2 : k < 2 := by omega
  obtain ⟨N1, x1, x2, x3, x4⟩ := keep_loop hk2 (f := S 11) 84 0 N (fun N_2 => (if nI k < 0 then N_2 else (if (nI 2) ≤ nI k then N_2 else (bd (pset N_2 1 (upd (N_2 1) (ix (nI k)) (vp_nar .boolean (1 : Int32)))) (fun Nb8 => Nb8))))) rfl
  obtain ⟨M1, y1, y2, y3, y4⟩ := takeM_loop hk2 84 0 (pset (pset M 4 (upd (M 4) k 1)) 7 (fun _ => 0)) (fun M_34 => (ob1 (f7_dishesInPlan M_34) (fun r11 => (some (r11, M_34))))) rfl
  have hN : f4_keep 84 N (S 11) (nI k) = pset N1 1 (upd (N1 1) k 1) := by
    refine x1.trans ?_
    rw [if_neg (nI_pos (by omega)), if_neg (nI_ge hk2 (by omega)), ix_nI (by omega)]
    rfl
  have e0 : M1 0 = M 0 := y2 0 (by decide)
  have h1 : Rel S (M1 0) dc gc := by rw [e0]; exact sr.1
  simp only [bd]
  rw [hN]
  refine ⟨0, _, _, _, M1, rfl, y1.trans (by rw [dishesInPlan_eq h1, ob1_some]), ⟨⟨dc, gc, by rw [e0]; exact sr⟩, hr_same hh (y2 1 (by decide)) (y2 2 (by decide)), fun j hj => ?_, ?_⟩, Or.inl ⟨rfl, ?_, rfl⟩⟩
  · rw [pset_same, pset_ne (show (0 : Nat) ≠ 1 by decide), x2 1 (by decide), y2 4 (by decide), pset_ne (show (4 : Nat) ≠ 7 by decide), pset_same]
    by_cases y : j = k
    · rw [y, upd_same, upd_same]
      refine Or.inr ⟨rfl, rfl, fun c hc => ?_⟩
      rw [x3 c (by omega) hc, y3 c (by omega) hc, pset_ne (show (0 : Nat) ≠ 7 by decide), pset_ne (show (0 : Nat) ≠ 4 by decide), sr.1.2.2.2.2.2.2.2.2.2 c hc]
      refine ⟨rfl, ?_⟩
      rcases sr.1.plan sr.2.1 hc with q | ⟨d, q1, q2, q3⟩
      · exact Or.inl q
      · exact Or.inr ⟨d, q2, q3⟩
    · rw [upd_ne y, upd_ne y]
      rcases hn j hj with q | ⟨q1, q2, q3⟩
      · exact Or.inl q
      · refine Or.inr ⟨q1, q2, fun c hc => ?_⟩
        rw [x4 (84 * j + c) (by omega), y4 (84 * j + c) (by omega), pset_ne (show (3 : Nat) ≠ 7 by decide), pset_ne (show (3 : Nat) ≠ 4 by decide)]
        exact q3 c hc
  · unfold TX at ht ⊢
    rw [y2 5 (by decide), y2 6 (by decide)]
    exact ht
  · rw [y2 7 (by decide), pset_same]
theorem take_over {dc gc : Nat} (R : Pic) (s : SR S (M 0) dc gc) (hh : HR G Z M) : ∃ (G' : Pic) (Z' : Nat → Pic) (M' : Pic), f6_takeOverTrial S R G Z = (f5_copyFrom S R, G', Z') ∧ f7_save M = some M' ∧ HR G' Z' M' ∧ ∀ j : Nat, j ≠ 1 → j ≠ 2 → M' j = M j := by
  obtain ⟨G', Z', M1, x1, x2, x3, x4⟩ := save_eq s hh
  refine ⟨G', Z', M1, ?_, x2, x3, x4⟩
  rw [f6_takeOverTrial, x1]
  rfl
theorem areSound_eq {R M : Pic} {dc gc : Nat} (Y : Pic) (h : Rel R (M 0) dc gc) (w : Wf R dc) : ∃ (r : Int32) (Y' M' : Pic), f1_areSound Y R = (r, Y') ∧ f7_match M = some (r, M') ∧ Fr M M' ∧ bl r (gd R dc) := by
  obtain ⟨r, Y', e1, hr, -⟩ := pairAll_eq w h.1 h.2.2.1 Y
  obtain ⟨r', M', e2, hf, hr', -, -, -⟩ := match_eq h w
  have : r = r' := hr.one hr'
  subst this
  exact ⟨r, Y', M', by rw [f1_areSound, e1]; rfl, e2, hf, hr⟩
theorem isGood_eq {R M : Pic} {dc gc : Nat} (Y : Pic) (h : Rel R (M 0) dc gc) (w : Wf R dc) : ∃ (r : Int32) (Y' M' : Pic), f6_canStand R Y = (r, Y') ∧ f7_isGood M = some (r, M') ∧ Fr M M' ∧ (¬ r = 0 → gd R dc ∧ f5_isAboveBudget R = 0) := by
  have z2 : M 0 (ix (2 : Int32)) = f6_at 3 (R 10) 2 := by
    have a : f6_at 3 (R 10) 2 = R 10 2 := f6_at_nI (n := 3) (j := 2) (f := R 10) (by omega) (by omega)
    rw [a]; exact h.2.2.2.2.2.2.2.2.1 2 (by omega)
  rw [f6_canStand, f7_isGood, someVetoed_eq h w, ob1_some, z2, isDear_eq h w, ob1_some]
  simp only [bd]
  by_cases c1 : f5_hasVetoedDish R = 0
  · rw [if_pos c1, if_pos c1]
    by_cases c2 : f5_isAboveBudget R = 0
    · rw [if_pos c2, if_pos c2]
      obtain ⟨r, Y', M', x1, x2, x3, x4⟩ := areSound_eq Y h w
      rw [x1, x2, ob2_some]
      simp only [bd2]
      by_cases c3 : r = 0
      · rw [if_pos c3, if_pos c3]
        exact ⟨0, Y', M', rfl, rfl, x3, fun z => absurd rfl z⟩
      · rw [if_neg c3, if_neg c3]
        exact ⟨1, Y', M', rfl, rfl, x3, fun _ => ⟨x4.ne0 c3, c2⟩⟩
    · rw [if_neg c2, if_neg c2]
      exact ⟨0, Y, M, rfl, rfl, Fr.rfl', fun z => absurd rfl z⟩
  · rw [if_neg c1, if_neg c1]
    exact ⟨0, Y, M, rfl, rfl, Fr.rfl', fun z => absurd rfl z⟩
/-- a put and a put back -/
theorem upd_back {f : Nat → Int32} {i : Nat} {v u : Int32} (h : f i = u) : upd (upd f i v) i u = f := by
  funext j
  by_cases y : j = i
  · rw [y, upd_same, h]
  · rw [upd_ne y, upd_ne y]
theorem st_drop (I : INV S G Z N T M) (R Y : Pic) (p1 p2 : Int32) : ∃ c r S' R' Y' G' Z' b M', f6_drop S R Y G Z p1 p2 = (c, r, S', R', Y', G', Z') ∧ f7_drop M p1 p2 = some (b, M') ∧ INV S' G' Z' N T M' ∧ an [1, 3] c r b M' := by
  obtain ⟨⟨dc, gc, sr⟩, hh, hn, ht⟩ := id I
  have h := sr.1
  have w := sr.2.1
  rw [f6_drop, f7_drop]
  rcases day_cs p1 with ⟨a, b⟩ | ⟨d, hd, rfl, a, b⟩
  · rw [if_pos a, if_pos b]
    exact ⟨1, 0, S, R, Y, G, Z, 0, _, rfl, rfl, I.e6 e7, an.th 0 rfl p7⟩
  rw [if_neg (ne0 a), if_neg (ne0 b)]
  rcases part_cs p2 with ⟨a, b⟩ | ⟨p, hp, rfl, a, b⟩
  · rw [if_pos a, if_pos b]
    exact ⟨1, 0, S, R, Y, G, Z, 0, _, rfl, rfl, I.e6 e7, an.th 0 rfl p7⟩
  have h' : Rel S ((pset M 7 (fun _ => (0 : Int32))) 0) dc gc := h
  have hx : 3 * d + p < 84 := by omega
  rw [if_neg (ne0 a), if_neg (ne0 b), h'.at hd hp, ob1_some, f6_cellOf_nI]
  simp only [bd]
  rw [f6_at_nI hx (by omega)]
  by_cases c : S 11 (3 * d + p) = -1
  · rw [if_pos c, if_pos c]
    exact ⟨3, 0, S, R, Y, G, Z, 0, _, rfl, rfl, I.e6 e7, an.th 1 rfl p7⟩
  rw [if_neg c, if_neg c, f6_put_nI hx (by omega)]
  have hag : Ag S (f5_copyFrom R S) := copy_ag R S
  have hagd : Ag (putS S (3 * d + p) (-1)) (pset (f5_copyFrom R S) 11 (upd ((f5_copyFrom R S) 11) (3 * d + p) (-1))) := by
    obtain ⟨a1, a2, a3, a4, a5, a6⟩ := hag
    refine ⟨a1, a2, fun k e q1 q2 q3 => ?_, fun k e q1 q2 q3 => ?_, fun k q => ?_, fun e q => ?_⟩
    · rw [pset_ne (by omega), putS_ne (by omega)]; exact a3 k e q1 q2 q3
    · rw [pset_ne (by omega), putS_ne (by omega)]; exact a4 k e q1 q2 q3
    · rw [pset_ne (by omega), putS_ne (by omega)]; exact a5 k q
    · rw [pset_same]
      by_cases y : e = 3 * d + p
      · rw [y, upd_same, putS_x]
      · rw [upd_ne y, putS_at y]; exact a6 e q
  obtain ⟨X, eX⟩ : ∃ X : Pic, pset (f5_copyFrom R S) 11 (upd ((f5_copyFrom R S) 11) (3 * d + p) (-1)) = X := ⟨_, rfl⟩
  rw [eX] at hagd ⊢
  have hdc := h.1
  have w0 := putS_wf0 (x := 3 * d + p) w
  have h0 := putS_rel (x := 3 * d + p) (v := -1) h hx
  obtain ⟨r, Y', y1, y2, -⟩ := pairAll_eq (ag_wf hagd hdc w0) hdc (hagd.1.trans h0.2.2.1) Y
  obtain ⟨r', M1, z1, z2, z3⟩ := sw_eq (v := -1) h' hd hp w0
  have hgi : gd X dc ↔ gd (putS S (3 * d + p) (-1)) dc := ⟨ag_gd (ag_symm hagd) hdc (hagd.1.trans h0.2.2.1), ag_gd hagd hdc h0.2.2.1⟩
  have : r = r' := (y2.iff hgi).one z3
  subst this
  rw [f1_areSound, y1, z1, ob2_some, bd2_eq, bd2_eq]
  by_cases c2 : r = 0
  · rw [if_pos c2, if_pos c2]
    exact ⟨3, 0, S, X, Y', G, Z, 0, _, rfl, rfl, I.e6 ((e7_fr z2).p (by omega)), an.th 1 rfl p7⟩
  rw [if_neg c2, if_neg c2]
  have e17 : E6 M (pset M1 7 (fun _ => (0 : Int32))) := (e7_fr z2).p (by omega)
  have I1 := I.e6 e17
  have em : (pset M1 7 (fun _ => (0 : Int32))) 0 = M 0 := e17 0 (by omega)
  obtain ⟨G', Z', M2, x1, x2, x3, x4⟩ := take_over X (S := S) (G := G) (Z := Z) (M := pset M1 7 (fun _ => (0 : Int32))) (dc := dc) (gc := gc) (by rw [em]; exact sr) I1.2.1
  have e20 : M2 0 = M 0 := (x4 0 (by decide) (by decide)).trans em
  have h2 : Rel S (M2 0) dc gc := by rw [e20]; exact h
  rw [x1, x2, ob1_some, h2.at hd hp, ob1_some, f7_put_nI hx, ob1_some]
  simp only [bd3]
  refine ⟨0, _, _, _, _, _, _, _, _, rfl, rfl, I.mk' (dc := dc) (gc := gc) ?_ (hr_same x3 ?_ ?_) (fun j q1 q2 => ?_), Or.inl ⟨rfl, ?_, rfl⟩⟩
  · rw [pset_same, e20]
    exact ag_sr (copy_ag S X) (ag_sr hagd (drop_sr sr hx (z3.ne0 c2)))
  · rw [pset_ne (by decide)]
  · rw [pset_ne (by decide)]
  · rw [pset_ne (by omega), x4 j (by omega) (by omega)]
    exact e17 j q2
  · rw [pset_ne (by decide), x4 7 (by decide) (by decide), p7]
theorem st_serve (I : INV S G Z N T M) (Y : Pic) (p1 p2 : Int32) : ∃ c r S' Y' G' Z' b M', f6_serve S Y G Z p1 p2 = (c, r, S', Y', G', Z') ∧ f7_serve M p1 p2 = some (b, M') ∧ INV S' G' Z' N T M' ∧ an [1, 3] c r b M' := by
  obtain ⟨⟨dc, gc, sr⟩, hh, hn, ht⟩ := id I
  have h := sr.1
  have w := sr.2.1
  rw [f6_serve, f7_serve]
  rcases day_cs p1 with ⟨a, b⟩ | ⟨d, hd, rfl, a, b⟩
  · rw [if_pos a, if_pos b]
    exact ⟨1, 0, S, Y, G, Z, 0, _, rfl, rfl, I.e6 e7, an.th 0 rfl p7⟩
  rw [if_neg (ne0 a), if_neg (ne0 b)]
  rcases dish_cs h p2 with ⟨a, b⟩ | ⟨e, he, rfl, a, b⟩
  · rw [if_pos a, if_pos b]
    exact ⟨1, 0, S, Y, G, Z, 0, _, rfl, rfl, I.e6 e7, an.th 0 rfl p7⟩
  have h' : Rel S ((pset M 7 (fun _ => (0 : Int32))) 0) dc gc := h
  have hdc := h.1
  obtain ⟨⟨p, hp, h1⟩, -⟩ := w.1 e he
  have hx : 3 * d + p < 84 := by omega
  obtain ⟨r, Y', M1, x1, x2, x3, ho⟩ := canServe_eq Y h' w sr.2.2.1 hd he hp h1
  rw [if_neg (ne0 a), if_neg (ne0 b), f6_at_nI (by omega) (by omega), h1, x2, ob2_some]
  simp only [bd]
  rw [x1]
  simp only [bd3]
  by_cases c : r = 0
  · rw [if_pos c, if_pos c, if_neg (by decide)]
    have e17 : E6 M (pset M1 7 (fun _ => (0 : Int32))) := (e7_fr x3).p (by omega)
    have I1 := I.e6 e17
    have em : (pset M1 7 (fun _ => (0 : Int32))) 0 = M 0 := e17 0 (by omega)
    obtain ⟨G', Z', M2, y1, y2, y3, y4⟩ := save_eq (S := S) (G := G) (Z := Z) (M := pset M1 7 (fun _ => (0 : Int32))) (dc := dc) (gc := gc) (by rw [em]; exact sr) I1.2.1
    have e20 : M2 0 = M 0 := (y4 0 (by decide) (by decide)).trans em
    have h2 : Rel S (M2 0) dc gc := by rw [e20]; exact h
    have o0 : f7_of M2 (nI e) 0 = some (nI p) := by rw [← h1]; exact h2.of (k := 0) he (by omega)
    have s3 := put_sr (x := 3 * d + p) (p := p) sr hx he (by omega) (ho c)
    have h3 : Rel (putS S (3 * d + p) (nI e)) ((pset M2 0 (upd (M2 0) (89 + (3 * d + p)) (nI e))) 0) dc gc := by rw [pset_same, e20]; exact s3.1
    rw [y1, y2, ob1_some, o0, ob1_some, f7_put_nI hx, ob1_some, joyNow_eq h3 s3.2.1 (by omega) he, ob1_some, f6_cellOf_nI, f6_put_nI hx (by omega)]
    simp only [bd2]
    refine ⟨0, _, _, _, _, _, _, _, rfl, rfl, I.mk' (dc := dc) (gc := gc) ?_ (hr_same y3 ?_ ?_) (fun j q1 q2 => ?_), Or.inl ⟨rfl, ?_, rfl⟩⟩
    · rw [pset_same, e20]
      exact s3
    · rw [pset_ne (by decide)]
    · rw [pset_ne (by decide)]
    · rw [pset_ne (by omega), y4 j (by omega) (by omega)]
      exact e17 j q2
    · rw [pset_ne (by decide), y4 7 (by decide) (by decide), p7]
  · rw [if_neg c, if_neg c, if_pos rfl]
    exact ⟨3, 0, S, Y', G, Z, 0, _, rfl, rfl, I.e6 ((e7_fr x3).p (by omega)), an.th 1 rfl p7⟩
end ST3
