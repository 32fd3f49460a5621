/-- the state with what a dish leaves -/
def setL (S : Pic) (d : Nat) (v u : Int32) : Pic := pset (pset S 5 (upd (S 5) d v)) 6 (upd (S 6) d u)
theorem setL_5 {S : Pic} {d : Nat} {v u : Int32} : setL S d v u 5 = upd (S 5) d v := by unfold setL; rw [pset_ne (by decide), pset_same]
theorem setL_6 {S : Pic} {d : Nat} {v u : Int32} : setL S d v u 6 = upd (S 6) d u := by unfold setL; rw [pset_same]
theorem setL_ne {S : Pic} {d k : Nat} {v u : Int32} (h5 : k ≠ 5) (h6 : k ≠ 6) : setL S d v u k = S k := by unfold setL; rw [pset_ne h6, pset_ne h5]
theorem setL_rel {S : Pic} {z : Nat → Int32} {dc gc d : Nat} {v u : Int32} (h : Rel S z dc gc) (hd : d < dc) : Rel (setL S d v u) (upd (upd z (5 + 6 * d + 4) v) (5 + 6 * d + 5) u) dc gc := by
  obtain ⟨h1, h2, h3, h4, h5, h6, h7, h8, h9, h10⟩ := h
  refine ⟨h1, h2, ?_, ?_, ?_, ?_, fun a k ha hk => ?_, fun g hg => ?_, fun k hk => ?_, fun c hc => ?_⟩
  · rw [setL_ne (by decide) (by decide)]; exact h3
  · rw [setL_ne (by decide) (by decide)]; exact h4
  · rw [upd_ne (by omega), upd_ne (by omega)]; exact h5
  · rw [upd_ne (by omega), upd_ne (by omega)]; exact h6
  · have e := h7 a k ha hk
    have : k = 4 ∨ k = 5 ∨ (k ≠ 4 ∧ k ≠ 5) := by omega
    rcases this with rfl | rfl | ⟨q1, q2⟩
    · rw [show 1 + 4 = 5 from rfl] at e ⊢
      rw [setL_5, upd_ne (by omega)]
      by_cases y : a = d
      · rw [y, upd_same, upd_same]
      · rw [upd_ne (by omega), upd_ne y]; exact e
    · rw [show 1 + 5 = 6 from rfl] at e ⊢
      rw [setL_6]
      by_cases y : a = d
      · rw [y, upd_same, upd_same]
      · rw [upd_ne (by omega), upd_ne (by omega), upd_ne y]; exact e
    · rw [upd_ne (by omega), upd_ne (by omega), setL_ne (by omega) (by omega)]; exact e
  · rw [upd_ne (by omega), upd_ne (by omega), upd_ne (by omega), upd_ne (by omega), setL_ne (by decide) (by decide), setL_ne (by decide) (by decide)]; exact h8 g hg
  · rw [upd_ne (by omega), upd_ne (by omega), setL_ne (by decide) (by decide)]; exact h9 k hk
  · rw [upd_ne (by omega), upd_ne (by omega), setL_ne (by decide) (by decide)]; exact h10 c hc
theorem setL_wf {S : Pic} {dc d u : Nat} {v : Int32} (w : Wf S dc) (hv : v = -1 ∨ ∃ e : Nat, e < dc ∧ v = nI e) (hu : u ≤ 6) : Wf (setL S d v (nI u)) dc := by
  refine ⟨fun a ha => ?_, fun c hc => ?_, ?_⟩
  · rw [setL_5, setL_6, setL_ne (show (1 : Nat) ≠ 5 by decide) (by decide)]
    obtain ⟨a1, a2, a3⟩ := w.1 a ha
    by_cases y : a = d
    · rw [y, upd_same, upd_same, ← y]; exact ⟨a1, hv, u, hu, rfl⟩
    · rw [upd_ne y, upd_ne y]; exact ⟨a1, a2, a3⟩
  · rw [setL_ne (show (1 : Nat) ≠ 5 by decide) (by decide), setL_ne (show (11 : Nat) ≠ 5 by decide) (by decide)]
    exact w.2.1 c hc
  · rw [setL_ne (by decide) (by decide)]; exact w.2.2
theorem wc_same {S S' : Pic} {wk : Nat} (h2 : S' 2 = S 2) (h11 : S' 11 = S 11) : WC S' wk = WC S wk := sN_congr (fun c _ _ => by
  unfold kn kc
  rw [h2, h11])
/-- the budget of a plan whose dishes and costs stay -/
theorem above_same {S S' : Pic} {dc : Nat} (w : Wf S dc) (w' : Wf S' dc) (hdc : dc ≤ 12) (x : Bx S dc) (h2 : S' 2 = S 2) (h11 : S' 11 = S 11) (h10 : S' 10 2 = S 10 2) : f5_isAboveBudget S' = 0 := by
  obtain ⟨b, hb, eb, hw⟩ := bx_wc w hdc x
  refine (above_bl w' hdc (by rw [h2]; exact x.2.1) hb (h10.trans eb)).neg ?_
  rintro ⟨wk, y1, y2⟩
  have h3 := hw wk y1
  rw [wc_same h2 h11] at y2
  omega
theorem setLeft_nI {M : Pic} {d : Nat} {v u : Int32} (h : d < 12) : f7_setLeft M (nI d) v u = some (pset M 0 (upd (upd (M 0) (5 + 6 * d + 4) v) (5 + 6 * d + 5) (if v = -1 then 0 else u))) := by
  have e1 : (5 : Int32) + 6 * nI d + 4 = nI (5 + 6 * d + 4) := by rw [show (6 : Int32) = nI 6 from rfl, show (5 : Int32) = nI 5 from rfl, show (4 : Int32) = nI 4 from rfl, pk_mul, nI_add, nI_add]
  have e2 : (5 : Int32) + 6 * nI d + 5 = nI (5 + 6 * d + 5) := by rw [show (6 : Int32) = nI 6 from rfl, show (5 : Int32) = nI 5 from rfl, pk_mul, nI_add, nI_add]
  have pp : ∀ f g : Nat → Int32, pset (pset M 0 f) 0 g = pset M 0 g := fun f g => by
    funext k
    by_cases y : k = 0
    · rw [y, pset_same, pset_same]
    · rw [pset_ne y, pset_ne y, pset_ne y]
  rw [f7_setLeft, e1, e2]
  simp only [bd]
  rw [ck_nI (by omega) (by omega), ck_nI (by omega) (by omega), ck_nI (by omega) (by omega), ix_nI (by omega), ix_nI (by omega), pset_same, pp, pp]
  by_cases c : v = -1
  · rw [if_pos c, if_pos c]
  · rw [if_neg c, if_neg c]
section ST4
variable {S G N T M : Pic} {Z : Nat → Pic}
theorem soundThen_eq {dc gc d u : Nat} {v : Int32} (s : SR S (M 0) dc gc) (hd : d < dc) (hv : v = -1 ∨ ∃ e : Nat, e < dc ∧ v = nI e) (hu : u ≤ 6) (hu0 : v = -1 → u = 0) {u' : Int32} (hu' : (if v = -1 then (0 : Int32) else u') = nI u) : ∃ (r : Int32) (M' : Pic), f7_soundThen M (nI d) v u' = some (r, M') ∧ Fr M M' ∧ bl r (gd (setL S d v (nI u)) dc) := by
  have h := s.1
  have hdc := h.1
  have o4 : f7_of M (nI d) 4 = some (S 5 d) := h.of (k := 4) hd (by omega)
  have o5 : f7_of M (nI d) 5 = some (S 6 d) := h.of (k := 5) hd (by omega)
  have h1 : Rel (setL S d v (nI u)) ((pset M 0 (upd (upd (M 0) (5 + 6 * d + 4) v) (5 + 6 * d + 5) (nI u))) 0) dc gc := by rw [pset_same]; exact setL_rel h hd
  obtain ⟨r, M', e1, hf, hr, -, -, -⟩ := match_eq h1 (setL_wf s.2.1 hv hu)
  rw [f7_soundThen, o4, ob1_some, o5, ob1_some, setLeft_nI (by omega), hu', ob1_some, e1, ob2_some, setLeft_nI (by omega), ob1_some]
  refine ⟨r, _, rfl, fun j a b => ?_, hr⟩
  have eq0 : (if S 5 d = -1 then (0 : Int32) else S 6 d) = S 6 d := by
    by_cases c : S 5 d = -1
    · rw [if_pos c, s.2.2.2.1 d hd c]
    · rw [if_neg c]
  by_cases q : j = 0
  · subst q
    rw [pset_same, hf.zero, pset_same, eq0]
    funext i
    have z4 := h.2.2.2.2.2.2.1 d 4 hd (by omega)
    have z5 := h.2.2.2.2.2.2.1 d 5 hd (by omega)
    by_cases y5 : i = 5 + 6 * d + 5
    · rw [y5, upd_same]; exact z5.symm
    · rw [upd_ne y5]
      by_cases y4 : i = 5 + 6 * d + 4
      · rw [y4, upd_same]; exact z4.symm
      · rw [upd_ne y4, upd_ne y5, upd_ne y4]
  · rw [pset_ne q, hf j a b, pset_ne q]
theorem setL_ag {S R : Pic} {d u : Nat} {v : Int32} (hag : Ag S R) : Ag (setL S d v (nI u)) (setL R d v (nI u)) := by
  obtain ⟨a1, a2, a3, a4, a5, a6⟩ := hag
  refine ⟨?_, ?_, fun k e q1 q2 q3 => ?_, fun k e q1 q2 q3 => ?_, fun k q => ?_, fun e q => ?_⟩
  · rw [setL_ne (by decide) (by decide), setL_ne (by decide) (by decide)]; exact a1
  · rw [setL_ne (by decide) (by decide), setL_ne (by decide) (by decide)]; exact a2
  · have : k = 5 ∨ k = 6 ∨ (k ≠ 5 ∧ k ≠ 6) := by omega
    rcases this with rfl | rfl | ⟨y1, y2⟩
    · rw [setL_5, setL_5]
      by_cases y : e = d
      · rw [y, upd_same, upd_same]
      · rw [upd_ne y, upd_ne y]; exact a3 5 e q1 q2 q3
    · rw [setL_6, setL_6]
      by_cases y : e = d
      · rw [y, upd_same, upd_same]
      · rw [upd_ne y, upd_ne y]; exact a3 6 e q1 q2 q3
    · rw [setL_ne y1 y2, setL_ne y1 y2]; exact a3 k e q1 q2 q3
  · rw [setL_ne (by omega) (by omega), setL_ne (by omega) (by omega)]; exact a4 k e q1 q2 q3
  · rw [setL_ne (by omega) (by omega), setL_ne (by omega) (by omega)]; exact a5 k q
  · rw [setL_ne (by omega) (by omega), setL_ne (by omega) (by omega)]; exact a6 e q
theorem leave_core (I : INV S G Z N T M) (R Y : Pic) {dc gc d u : Nat} {v p3 : Int32} (sr : SR S (M 0) dc gc) (hd : d < dc) (hv : v = -1 ∨ ∃ e : Nat, e < dc ∧ v = nI e) (hu : u ≤ 6) (hu0 : v = -1 → u = 0) (hu' : (if v = -1 then (0 : Int32) else p3) = nI u) : ∃ c r S' R' Y' G' Z' b M', (bd (f5_copyFrom R S) (fun u6 => (bd (pset u6 5 (f6_put 12 (u6 5) (nI d) v)) (fun Rb8 => (bd (pset Rb8 6 (f6_put 12 (Rb8 6) (nI d) (nI u))) (fun Rb10 => (bd2 (f1_areSound Y Rb10) (fun r11 u12 => (if r11 = 0 then ((3 : Int32), (0 : Int32), S, Rb10, u12, G, Z) else (bd (f6_at 12 (S 5) (nI d)) (fun v16 => (bd3 (f6_takeOverTrial S Rb10 G Z) (fun u17 u18 u19 => ((0 : Int32), v16, u17, Rb10, u12, u18, u19)))))))))))))) = (c, r, S', R', Y', G', Z') ∧ (ob2 (f7_soundThen (pset M 7 (fun _ => (0 : Int32))) (nI d) v p3) (fun r10 u11 => (if r10 = 0 then (some ((0 : Int32), (pset u11 7 (fun _ => (3 : Int32))))) else (ob1 (f7_save (pset u11 7 (fun _ => (0 : Int32)))) (fun u15 => (ob1 (f7_of u15 (nI d) (4 : Int32)) (fun r17 => (ob1 (f7_setLeft u15 (nI d) v p3) (fun u19 => (some (r17, u19))))))))))) = some (b, M') ∧ INV S' G' Z' N T M' ∧ an [1, 2, 3] c r b M' := by
  have h := sr.1
  have w := sr.2.1
  have hdc := h.1
  have s' : SR S ((pset M 7 (fun _ => (0 : Int32))) 0) dc gc := sr
  obtain ⟨r, M1, x1, x2, x3⟩ := soundThen_eq s' hd hv hu hu0 hu'
  have hag := setL_ag (d := d) (u := u) (v := v) (copy_ag R S)
  have eX : pset (pset (f5_copyFrom R S) 5 (f6_put 12 ((f5_copyFrom R S) 5) (nI d) v)) 6 (f6_put 12 ((pset (f5_copyFrom R S) 5 (f6_put 12 ((f5_copyFrom R S) 5) (nI d) v)) 6) (nI d) (nI u)) = setL (f5_copyFrom R S) d v (nI u) := by
    rw [f6_put_nI (by omega) (by omega), f6_put_nI (by omega) (by omega), pset_ne (show (6 : Nat) ≠ 5 by decide)]
    rfl
  simp only [bd]
  rw [eX]
  obtain ⟨X, eX'⟩ : ∃ X : Pic, setL (f5_copyFrom R S) d v (nI u) = X := ⟨_, rfl⟩
  rw [eX'] at hag ⊢
  have w0 := setL_wf (d := d) w hv hu
  have h0 := setL_rel (v := v) (u := nI u) h hd
  obtain ⟨r', Y', y1, y2, -⟩ := pairAll_eq (ag_wf hag hdc w0) hdc (hag.1.trans h0.2.2.1) Y
  have hgi : gd X dc ↔ gd (setL S d v (nI u)) dc := ⟨ag_gd (ag_symm hag) hdc (hag.1.trans h0.2.2.1), ag_gd hag hdc h0.2.2.1⟩
  have : r' = r := (y2.iff hgi).one x3
  subst this
  rw [f1_areSound, y1, x1, ob2_some, bd2_eq, bd2_eq]
  by_cases c2 : r' = 0
  · rw [if_pos c2, if_pos c2]
    exact ⟨3, 0, S, X, Y', G, Z, 0, _, rfl, rfl, I.e6 ((e7_fr x2).p (by omega)), an.th 2 rfl p7⟩
  rw [if_neg c2, if_neg c2]
  have e17 : E6 M (pset M1 7 (fun _ => (0 : Int32))) := (e7_fr x2).p (by omega)
  have I1 := I.e6 e17
  have em : (pset M1 7 (fun _ => (0 : Int32))) 0 = M 0 := e17 0 (by omega)
  obtain ⟨G', Z', M2, z1, z2, z3, z4⟩ := take_over X (S := S) (G := G) (Z := Z) (M := pset M1 7 (fun _ => (0 : Int32))) (dc := dc) (gc := gc) (by rw [em]; exact sr) I1.2.1
  have e20 : M2 0 = M 0 := (z4 0 (by decide) (by decide)).trans em
  have o4 : f7_of M2 (nI d) 4 = some (S 5 d) := by
    have h2 : Rel S (M2 0) dc gc := by rw [e20]; exact h
    exact h2.of (k := 4) hd (by omega)
  rw [z1, z2, ob1_some, o4, ob1_some, setLeft_nI (by omega), hu', ob1_some, f6_at_nI (by omega) (by omega)]
  simp only [bd3]
  refine ⟨0, _, _, _, _, _, _, _, _, rfl, rfl, I.mk' (dc := dc) (gc := gc) ?_ (hr_same z3 ?_ ?_) (fun j q1 q2 => ?_), Or.inl ⟨rfl, ?_, rfl⟩⟩
  · rw [pset_same, e20]
    refine ag_sr (copy_ag S X) (ag_sr hag ⟨h0, w0, x3.ne0 c2, fun a ha z => ?_, ?_, ?_, ?_⟩)
    · rw [setL_5] at z
      rw [setL_6]
      by_cases y : a = d
      · rw [y, upd_same] at z
        rw [y, upd_same, hu0 z]; rfl
      · rw [upd_ne y] at z
        rw [upd_ne y]; exact sr.2.2.2.1 a ha z
    · rw [setL_ne (by decide) (by decide)]; exact sr.2.2.2.2.1
    · rw [setL_ne (by decide) (by decide)]; exact sr.2.2.2.2.2.1
    · exact above_same w w0 hdc sr.2.2.2 (setL_ne (by decide) (by decide)) (setL_ne (by decide) (by decide)) (by rw [setL_ne (by decide) (by decide)])
  · rw [pset_ne (by decide)]
  · rw [pset_ne (by decide)]
  · rw [pset_ne (by omega), z4 j (by omega) (by omega)]
    exact e17 j q2
  · rw [pset_ne (by decide), z4 7 (by decide) (by decide), p7]
theorem st_leave (I : INV S G Z N T M) (R Y : Pic) (p1 p2 p3 : Int32) : ∃ c r S' R' Y' G' Z' b M', f6_leave S R Y G Z p1 p2 p3 = (c, r, S', R', Y', G', Z') ∧ f7_leave M p1 p2 p3 = some (b, M') ∧ INV S' G' Z' N T M' ∧ an [1, 2, 3] c r b M' := by
  obtain ⟨⟨dc, gc, sr⟩, hh, hn, ht⟩ := id I
  have h := sr.1
  have hdc := h.1
  rw [f6_leave, f7_leave]
  rcases dish_cs h p1 with ⟨a, b⟩ | ⟨d, hd, rfl, a, b⟩
  · rw [if_pos a, if_pos b]
    refine ⟨1, 0, S, R, Y, G, Z, 0, pset M 7 (fun _ => 1), rfl, ?_, I.e6 e7, an.th 0 rfl p7⟩
    repeat' split
    all_goals rfl
  rw [if_neg (ne0 a), if_neg (ne0 b)]
  by_cases c1 : p2 = -1
  · rw [if_pos c1, if_pos c1, c1, if_neg (nI_ne_neg (by omega))]
    exact leave_core I R Y (u := 0) (v := -1) (p3 := p3) sr hd (Or.inl rfl) (by omega) (fun _ => rfl) (if_pos rfl)
  rw [if_neg c1, if_neg c1]
  rcases dish_cs h p2 with ⟨a, b⟩ | ⟨e, he, rfl, a, b⟩
  · rw [if_pos a, if_pos b]
    refine ⟨1, 0, S, R, Y, G, Z, 0, pset M 7 (fun _ => 1), rfl, ?_, I.e6 e7, an.th 0 rfl p7⟩
    repeat' split
    all_goals rfl
  rw [if_neg (ne0 a), if_neg (ne0 b)]
  rcases wi_cs p3 (a := 1) (b := 6) (by omega) (by omega) with ⟨a, b⟩ | ⟨u, hu0, hu, rfl, a, b⟩
  · rw [if_pos (show f6_isWithin p3 1 6 = 0 from a), if_pos (show f7_within p3 1 6 = 0 from b)]
    refine ⟨2, 0, S, R, Y, G, Z, 0, pset M 7 (fun _ => 2), ?_, rfl, I.e6 e7, an.th 1 rfl p7⟩
    split <;> rfl
  rw [if_neg (show ¬ f6_isWithin (nI u) 1 6 = 0 by rw [show f6_isWithin (nI u) 1 6 = 1 from a]; decide), if_neg (show ¬ f7_within (nI u) 1 6 = 0 by rw [show f7_within (nI u) 1 6 = 1 from b]; decide)]
  by_cases c2 : nI d = nI e
  · rw [if_pos c2, if_pos c2]
    exact ⟨2, 0, S, R, Y, G, Z, 0, _, rfl, rfl, I.e6 e7, an.th 1 rfl p7⟩
  · rw [if_neg c2, if_neg c2]
    exact leave_core I R Y (u := u) (v := nI e) (p3 := nI u) sr hd (Or.inr ⟨e, he, rfl⟩) hu (fun z => absurd z c1) (if_neg c1)
end ST4
