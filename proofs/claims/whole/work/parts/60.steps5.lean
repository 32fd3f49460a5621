/-- the state with a guest's mask -/
def setG (S : Pic) (k g : Nat) (v : Int32) : Pic := pset S k (upd (S k) g v)
theorem setG_ne {S : Pic} {k j g : Nat} {v : Int32} (h : j ≠ k) : setG S k g v j = S j := pset_ne h
theorem setG_k {S : Pic} {k g : Nat} {v : Int32} : setG S k g v k = upd (S k) g v := pset_same
theorem setG_rel {S : Pic} {z : Nat → Int32} {dc gc g t : Nat} {v : Int32} (h : Rel S z dc gc) (hg : g < gc) (ht : t < 2) : Rel (setG S (8 + t) g v) (upd z (77 + 2 * g + t) v) dc gc := by
  obtain ⟨h1, h2, h3, h4, h5, h6, h7, h8, h9, h10⟩ := h
  refine ⟨h1, h2, ?_, ?_, ?_, ?_, fun a k ha hk => ?_, fun a ha => ?_, fun k hk => ?_, fun c hc => ?_⟩
  · rw [setG_ne (by omega)]; exact h3
  · rw [setG_ne (by omega)]; exact h4
  · rw [upd_ne (by omega)]; exact h5
  · rw [upd_ne (by omega)]; exact h6
  · rw [upd_ne (by omega), setG_ne (by omega)]; exact h7 a k ha hk
  · have e := h8 a ha
    have : t = 0 ∨ t = 1 := by omega
    rcases this with rfl | rfl
    · rw [show 8 + 0 = 8 from rfl, setG_k, setG_ne (show (9 : Nat) ≠ 8 by decide), Nat.add_zero, upd_ne (show 77 + 2 * a + 1 ≠ 77 + 2 * g by omega)]
      by_cases y : a = g
      · rw [y, upd_same, upd_same, ← y]; exact ⟨rfl, e.2⟩
      · rw [upd_ne (by omega), upd_ne y]; exact e
    · rw [show 8 + 1 = 9 from rfl, setG_k, setG_ne (show (8 : Nat) ≠ 9 by decide), upd_ne (show 77 + 2 * a ≠ 77 + 2 * g + 1 by omega)]
      by_cases y : a = g
      · rw [y, upd_same, upd_same, ← y]; exact ⟨e.1, rfl⟩
      · rw [upd_ne (by omega), upd_ne y]; exact e
  · rw [upd_ne (by omega), setG_ne (by omega)]; exact h9 k hk
  · rw [upd_ne (by omega), setG_ne (by omega)]; exact h10 c hc
theorem setG_ag {S R : Pic} {g t : Nat} {v : Int32} (ht : t < 2) (hag : Ag S R) : Ag (setG S (8 + t) g v) (setG R (8 + t) g v) := by
  obtain ⟨a1, a2, a3, a4, a5, a6⟩ := hag
  refine ⟨?_, ?_, fun k e q1 q2 q3 => ?_, fun k e q1 q2 q3 => ?_, fun k q => ?_, fun e q => ?_⟩
  · rw [setG_ne (by omega), setG_ne (by omega)]; exact a1
  · rw [setG_ne (by omega), setG_ne (by omega)]; exact a2
  · rw [setG_ne (by omega), setG_ne (by omega)]; exact a3 k e q1 q2 q3
  · by_cases y : k = 8 + t
    · subst y
      rw [setG_k, setG_k]
      by_cases y2 : e = g
      · rw [y2, upd_same, upd_same]
      · rw [upd_ne y2, upd_ne y2]; exact a4 (8 + t) e q1 q2 q3
    · rw [setG_ne y, setG_ne y]; exact a4 k e q1 q2 q3
  · rw [setG_ne (by omega), setG_ne (by omega)]; exact a5 k q
  · rw [setG_ne (by omega), setG_ne (by omega)]; exact a6 e q
/-- a state of which only other things than plan, dishes and budget change -/
theorem sr_other {S S' : Pic} {z z' : Nat → Int32} {dc gc gc' : Nat} (s : SR S z dc gc) (r : Rel S' z' dc gc') (w' : Wf S' dc) (h2 : S' 2 = S 2) (h5 : S' 5 = S 5) (h6 : S' 6 = S 6) (h11 : S' 11 = S 11) (h10 : S' 10 2 = S 10 2) : SR S' z' dc gc' := by
  have hdc := s.1.1
  have ap : Ap S S' := fun c hc => by
    unfold lastD
    rw [h5, h6, h11]
    exact ⟨rfl, rfl, rfl⟩
  refine ⟨r, w', fun e he hl => ?_, by rw [h5, h6]; exact s.2.2.2.1, by rw [h2]; exact s.2.2.2.2.1, by rw [h10]; exact s.2.2.2.2.2.1, above_same s.2.1 w' hdc s.2.2.2 h2 h11 h10⟩
  obtain ⟨d, q1, q2⟩ := (lo_iff hdc r.2.2.1).mp hl
  rw [h5] at q2
  exact ap_snd ap (s.2.2.1 e he ((lo_iff hdc s.1.2.2.1).mpr ⟨d, q1, q2⟩))
theorem setG_sr {S : Pic} {z : Nat → Int32} {dc gc g t : Nat} {v : Int32} (s : SR S z dc gc) (hg : g < gc) (ht : t < 2) : SR (setG S (8 + t) g v) (upd z (77 + 2 * g + t) v) dc gc := by
  refine sr_other s (setG_rel s.1 hg ht) ?_ (setG_ne (by omega)) (setG_ne (by omega)) (setG_ne (by omega)) (setG_ne (by omega)) (by rw [setG_ne (by omega)])
  unfold Wf
  rw [setG_ne (by omega), setG_ne (by omega), setG_ne (by omega), setG_ne (by omega), setG_ne (by omega)]
  exact s.2.1
section ST5
variable {S G N T M : Pic} {Z : Nat → Pic}
theorem vetoedThen_eq {dc gc g t : Nat} {v : Int32} (s : SR S (M 0) dc gc) (hg : g < gc) (ht : t < 2) : ∃ M' : Pic, f7_vetoedThen M (nI g) (nI t) v = some (f5_hasVetoedDish (setG S (8 + t) g v), M') ∧ Fr M M' := by
  have hgc := s.1.2.1
  have e1 : (77 : Int32) + 2 * nI g + nI t = nI (77 + 2 * g + t) := by rw [show (2 : Int32) = nI 2 from rfl, show (77 : Int32) = nI 77 from rfl, pk_mul, nI_add, nI_add]
  have h1 := setG_sr (v := v) s hg ht
  have h2 : Rel (setG S (8 + t) g v) ((pset M 0 (upd (M 0) (77 + 2 * g + t) v)) 0) dc gc := by rw [pset_same]; exact h1.1
  rw [f7_vetoedThen, f7_ofGuest_nI (by omega), ob1_some, e1]
  simp only [bd]
  rw [ck_nI (by omega) (by omega), ix_nI (by omega), someVetoed_eq h2 h1.2.1, ob1_some, ck_nI (by omega) (by omega)]
  refine ⟨_, rfl, fun j a b => ?_⟩
  by_cases q : j = 0
  · subst q
    rw [pset_same, pset_same]
    exact upd_back rfl
  · rw [pset_ne q, pset_ne q]
theorem st_come (I : INV S G Z N T M) (R : Pic) (p1 p2 : Int32) : ∃ c r S' R' G' Z' b M', f6_come S R G Z p1 p2 = (c, r, S', R', G', Z') ∧ f7_come M p1 p2 = some (b, M') ∧ INV S' G' Z' N T M' ∧ an [1, 2, 3] c r b M' := by
  obtain ⟨⟨dc, gc, sr⟩, hh, hn, ht⟩ := id I
  have h := sr.1
  have hgc := h.2.1
  rw [f6_come, f7_come, f7_changesGuest]
  rcases guest_cs h p1 with ⟨a, b⟩ | ⟨g, hg, rfl, a, b⟩
  · rw [if_pos a, if_pos b, ob2_some]
    exact ⟨1, 0, S, R, G, Z, 0, _, rfl, rfl, I.e6 e7, an.th 0 rfl p7⟩
  rw [if_neg (ne0 a), if_neg (ne0 b)]
  rcases wi_cs p2 (a := 0) (b := 127) (by omega) (by omega) with ⟨a, b⟩ | ⟨v, -, hv, rfl, a, b⟩
  · rw [if_pos (show f6_isWithin p2 0 127 = 0 from a), if_pos (show f7_within p2 0 127 = 0 from b), ob2_some]
    exact ⟨2, 0, S, R, G, Z, 0, _, rfl, rfl, I.e6 e7, an.th 1 rfl p7⟩
  rw [if_neg (show ¬ f6_isWithin (nI v) 0 127 = 0 by rw [show f6_isWithin (nI v) 0 127 = 1 from a]; decide), if_neg (show ¬ f7_within (nI v) 0 127 = 0 by rw [show f7_within (nI v) 0 127 = 1 from b]; decide)]
  have s' : SR S ((pset M 7 (fun _ => (0 : Int32))) 0) dc gc := sr
  obtain ⟨M1, x1, x2⟩ := vetoedThen_eq (t := 0) (v := nI v) s' hg (by omega)
  have x1' : f7_vetoedThen (pset M 7 (fun _ => (0 : Int32))) (nI g) 0 (nI v) = some (f5_hasVetoedDish (setG S 8 g (nI v)), M1) := x1
  have hag : Ag (setG S 8 g (nI v)) (setG (f5_copyFrom R S) 8 g (nI v)) := setG_ag (t := 0) (by omega) (copy_ag R S)
  have ss : SR (setG S 8 g (nI v)) (upd (M 0) (77 + 2 * g + 0) (nI v)) dc gc := setG_sr (t := 0) sr hg (by omega)
  have sX := ag_sr hag ss
  have eX : pset (f5_copyFrom R S) 8 (f6_put 6 ((f5_copyFrom R S) 8) (nI g) (nI v)) = setG (f5_copyFrom R S) 8 g (nI v) := by
    rw [f6_put_nI (by omega) (by omega)]
    rfl
  simp only [bd]
  rw [eX, x1', ob2_some]
  obtain ⟨X, eX'⟩ : ∃ X : Pic, setG (f5_copyFrom R S) 8 g (nI v) = X := ⟨_, rfl⟩
  rw [eX'] at hag sX ⊢
  have hv2 : f5_hasVetoedDish X = f5_hasVetoedDish (setG S 8 g (nI v)) := by
    have q1 := someVetoed_eq (M := fun _ => upd (M 0) (77 + 2 * g + 0) (nI v)) sX.1 sX.2.1
    have q2 := someVetoed_eq (M := fun _ => upd (M 0) (77 + 2 * g + 0) (nI v)) ss.1 ss.2.1
    exact Option.some.inj (q1.symm.trans q2)
  rw [hv2]
  by_cases c2 : f5_hasVetoedDish (setG S 8 g (nI v)) = 0
  · rw [if_pos c2, if_pos c2]
    have e17 : E6 M (pset M1 7 (fun _ => (0 : Int32))) := (e7_fr x2).p (by omega)
    have I1 := I.e6 e17
    have em : (pset M1 7 (fun _ => (0 : Int32))) 0 = M 0 := e17 0 (by omega)
    obtain ⟨G', Z', M2, z1, z2, z3, z4⟩ := take_over X (S := S) (G := G) (Z := Z) (M := pset M1 7 (fun _ => (0 : Int32))) (dc := dc) (gc := gc) (by rw [em]; exact sr) I1.2.1
    have e20 : M2 0 = M 0 := (z4 0 (by decide) (by decide)).trans em
    have og : f7_ofGuest M2 (nI g) 0 = some (S 8 g) := by
      refine (f7_ofGuest_nI (k := 0) (by omega)).trans ?_
      rw [e20]
      exact congrArg some (h.2.2.2.2.2.2.2.1 g hg).1
    have e1 : (77 : Int32) + 2 * nI g + 0 = nI (77 + 2 * g + 0) := by rw [show (2 : Int32) = nI 2 from rfl, show (77 : Int32) = nI 77 from rfl, pk_mul, nI_add]; exact nI_add _ 0
    rw [z1, z2, ob1_some, og, ob1_some, e1, ck_nI (by omega) (by omega), ix_nI (by omega), f6_at_nI (by omega) (by omega)]
    simp only [bd3, ob2_some]
    refine ⟨0, _, _, _, _, _, _, _, rfl, rfl, I.mk' (dc := dc) (gc := gc) ?_ (hr_same z3 ?_ ?_) (fun j q1 q2 => ?_), Or.inl ⟨rfl, ?_, rfl⟩⟩
    · rw [pset_same, e20]
      exact ag_sr (copy_ag S X) sX
    · rw [pset_ne (by decide)]
    · rw [pset_ne (by decide)]
    · rw [pset_ne (by omega), z4 j (by omega) (by omega)]
      exact e17 j q2
    · rw [pset_ne (by decide), z4 7 (by decide) (by decide), p7]
  · rw [if_neg c2, if_neg c2, ob2_some]
    exact ⟨3, 0, S, X, G, Z, 0, _, rfl, rfl, I.e6 ((e7_fr x2).p (by omega)), an.th 2 rfl p7⟩
theorem st_veto (I : INV S G Z N T M) (R : Pic) (p1 p2 : Int32) : ∃ c r S' R' G' Z' b M', f6_veto S R G Z p1 p2 = (c, r, S', R', G', Z') ∧ f7_veto M p1 p2 = some (b, M') ∧ INV S' G' Z' N T M' ∧ an [1, 2, 3] c r b M' := by
  obtain ⟨⟨dc, gc, sr⟩, hh, hn, ht⟩ := id I
  have h := sr.1
  have hgc := h.2.1
  rw [f6_veto, f7_veto, f7_changesGuest]
  rcases guest_cs h p1 with ⟨a, b⟩ | ⟨g, hg, rfl, a, b⟩
  · rw [if_pos a, if_pos b, ob2_some]
    exact ⟨1, 0, S, R, G, Z, 0, _, rfl, rfl, I.e6 e7, an.th 0 rfl p7⟩
  rw [if_neg (ne0 a), if_neg (ne0 b)]
  rcases wi_cs p2 (a := 0) (b := 63) (by omega) (by omega) with ⟨a, b⟩ | ⟨v, -, hv, rfl, a, b⟩
  · rw [if_pos (show f6_isWithin p2 0 63 = 0 from a), if_pos (show f7_within p2 0 63 = 0 from b), ob2_some]
    exact ⟨2, 0, S, R, G, Z, 0, _, rfl, rfl, I.e6 e7, an.th 1 rfl p7⟩
  rw [if_neg (show ¬ f6_isWithin (nI v) 0 63 = 0 by rw [show f6_isWithin (nI v) 0 63 = 1 from a]; decide), if_neg (show ¬ f7_within (nI v) 0 63 = 0 by rw [show f7_within (nI v) 0 63 = 1 from b]; decide)]
  have s' : SR S ((pset M 7 (fun _ => (0 : Int32))) 0) dc gc := sr
  obtain ⟨M1, x1, x2⟩ := vetoedThen_eq (t := 1) (v := nI v) s' hg (by omega)
  have x1' : f7_vetoedThen (pset M 7 (fun _ => (0 : Int32))) (nI g) 1 (nI v) = some (f5_hasVetoedDish (setG S 9 g (nI v)), M1) := x1
  have hag : Ag (setG S 9 g (nI v)) (setG (f5_copyFrom R S) 9 g (nI v)) := setG_ag (t := 1) (by omega) (copy_ag R S)
  have ss : SR (setG S 9 g (nI v)) (upd (M 0) (77 + 2 * g + 1) (nI v)) dc gc := setG_sr (t := 1) sr hg (by omega)
  have sX := ag_sr hag ss
  have eX : pset (f5_copyFrom R S) 9 (f6_put 6 ((f5_copyFrom R S) 9) (nI g) (nI v)) = setG (f5_copyFrom R S) 9 g (nI v) := by
    rw [f6_put_nI (by omega) (by omega)]
    rfl
  simp only [bd]
  rw [eX, x1', ob2_some]
  obtain ⟨X, eX'⟩ : ∃ X : Pic, setG (f5_copyFrom R S) 9 g (nI v) = X := ⟨_, rfl⟩
  rw [eX'] at hag sX ⊢
  have hv2 : f5_hasVetoedDish X = f5_hasVetoedDish (setG S 9 g (nI v)) := by
    have q1 := someVetoed_eq (M := fun _ => upd (M 0) (77 + 2 * g + 1) (nI v)) sX.1 sX.2.1
    have q2 := someVetoed_eq (M := fun _ => upd (M 0) (77 + 2 * g + 1) (nI v)) ss.1 ss.2.1
    exact Option.some.inj (q1.symm.trans q2)
  rw [hv2]
  by_cases c2 : f5_hasVetoedDish (setG S 9 g (nI v)) = 0
  · rw [if_pos c2, if_pos c2]
    have e17 : E6 M (pset M1 7 (fun _ => (0 : Int32))) := (e7_fr x2).p (by omega)
    have I1 := I.e6 e17
    have em : (pset M1 7 (fun _ => (0 : Int32))) 0 = M 0 := e17 0 (by omega)
    obtain ⟨G', Z', M2, z1, z2, z3, z4⟩ := take_over X (S := S) (G := G) (Z := Z) (M := pset M1 7 (fun _ => (0 : Int32))) (dc := dc) (gc := gc) (by rw [em]; exact sr) I1.2.1
    have e20 : M2 0 = M 0 := (z4 0 (by decide) (by decide)).trans em
    have og : f7_ofGuest M2 (nI g) 1 = some (S 9 g) := by
      refine (f7_ofGuest_nI (k := 1) (by omega)).trans ?_
      rw [e20]
      exact congrArg some (h.2.2.2.2.2.2.2.1 g hg).2
    have e1 : (77 : Int32) + 2 * nI g + 1 = nI (77 + 2 * g + 1) := by rw [show (2 : Int32) = nI 2 from rfl, show (77 : Int32) = nI 77 from rfl, pk_mul, nI_add]; exact nI_add _ 1
    rw [z1, z2, ob1_some, og, ob1_some, e1, ck_nI (by omega) (by omega), ix_nI (by omega), f6_at_nI (by omega) (by omega)]
    simp only [bd3, ob2_some]
    refine ⟨0, _, _, _, _, _, _, _, rfl, rfl, I.mk' (dc := dc) (gc := gc) ?_ (hr_same z3 ?_ ?_) (fun j q1 q2 => ?_), Or.inl ⟨rfl, ?_, rfl⟩⟩
    · rw [pset_same, e20]
      exact ag_sr (copy_ag S X) sX
    · rw [pset_ne (by decide)]
    · rw [pset_ne (by decide)]
    · rw [pset_ne (by omega), z4 j (by omega) (by omega)]
      exact e17 j q2
    · rw [pset_ne (by decide), z4 7 (by decide) (by decide), p7]
  · rw [if_neg c2, if_neg c2, ob2_some]
    exact ⟨3, 0, S, X, G, Z, 0, _, rfl, rfl, I.e6 ((e7_fr x2).p (by omega)), an.th 2 rfl p7⟩
/-- the state with a setting -/
def setS (S : Pic) (k : Nat) (v : Int32) : Pic := pset S 10 (upd (S 10) k v)
theorem setS_ne {S : Pic} {k j : Nat} {v : Int32} (h : j ≠ 10) : setS S k v j = S j := pset_ne h
theorem setS_10 {S : Pic} {k : Nat} {v : Int32} : setS S k v 10 = upd (S 10) k v := pset_same
theorem setS_rel {S : Pic} {z : Nat → Int32} {dc gc k : Nat} {v : Int32} (h : Rel S z dc gc) (hk : k < 3) : Rel (setS S k v) (upd z k v) dc gc := by
  obtain ⟨h1, h2, h3, h4, h5, h6, h7, h8, h9, h10⟩ := h
  refine ⟨h1, h2, ?_, ?_, ?_, ?_, fun a i ha hi => ?_, fun a ha => ?_, fun i hi => ?_, fun c hc => ?_⟩
  · rw [setS_ne (by omega)]; exact h3
  · rw [setS_ne (by omega)]; exact h4
  · rw [upd_ne (by omega)]; exact h5
  · rw [upd_ne (by omega)]; exact h6
  · rw [upd_ne (by omega), setS_ne (by omega)]; exact h7 a i ha hi
  · rw [upd_ne (by omega), upd_ne (by omega), setS_ne (by omega), setS_ne (by omega)]; exact h8 a ha
  · rw [setS_10]
    by_cases y : i = k
    · rw [y, upd_same, upd_same]
    · rw [upd_ne y, upd_ne y]; exact h9 i hi
  · rw [upd_ne (by omega), setS_ne (by omega)]; exact h10 c hc
theorem setS_ag {S R : Pic} {k : Nat} {v : Int32} (hag : Ag S R) : Ag (setS S k v) (setS R k v) := by
  obtain ⟨a1, a2, a3, a4, a5, a6⟩ := hag
  refine ⟨?_, ?_, fun j e q1 q2 q3 => ?_, fun j e q1 q2 q3 => ?_, fun j q => ?_, fun e q => ?_⟩
  · rw [setS_ne (by omega), setS_ne (by omega)]; exact a1
  · rw [setS_ne (by omega), setS_ne (by omega)]; exact a2
  · rw [setS_ne (by omega), setS_ne (by omega)]; exact a3 j e q1 q2 q3
  · rw [setS_ne (by omega), setS_ne (by omega)]; exact a4 j e q1 q2 q3
  · rw [setS_10, setS_10]
    by_cases y : j = k
    · rw [y, upd_same, upd_same]
    · rw [upd_ne y, upd_ne y]; exact a5 j q
  · rw [setS_ne (by omega), setS_ne (by omega)]; exact a6 e q
theorem isDear_bl {dc gc b : Nat} (h : Rel S (M 0) dc gc) (w : Wf S dc) (hk : ∀ d : Nat, d < dc → ∃ a : Nat, a ≤ 30 ∧ S 2 d = nI a) (hb : b < 2 ^ 31) : ∃ r : Int32, f7_isDear M (nI b) = some r ∧ bl r (∃ wk : Nat, wk < 4 ∧ b < WC S wk) := by
  have key : ∀ n i : Nat, i + n = 4 → ∃ r : Int32, f7_isDear_L4 M (nI b) n 0 (nI i) (fun x => some x) = some r ∧ bl r (∃ wk : Nat, i ≤ wk ∧ wk < 4 ∧ b < WC S wk) := by
    intro n
    induction n with
    | zero => intro i hi; exact ⟨0, rfl, Or.inr ⟨rfl, fun ⟨wk, a, b, _⟩ => by omega⟩⟩
    | succ n ih =>
      intro i hi
      have h1 := wc_eq w h.1 hk (show i < 4 by omega)
      rw [f7_isDear_L4, if_neg (gq4 (by omega)), if_pos rfl, weekCost_eq h w (by omega), ob1_some, h1.1]
      by_cases c : WC S i ≤ b
      · rw [if_pos ((nI_leI (by omega) (by omega)).mpr c), nI_1]
        obtain ⟨r, e1, e2⟩ := ih (i + 1) (by omega)
        refine ⟨r, e1, e2.iff ⟨fun ⟨wk, x, y, z⟩ => ⟨wk, by omega, y, z⟩, fun ⟨wk, x, y, z⟩ => ⟨wk, ?_, y, z⟩⟩⟩
        have : ¬ wk = i := by rintro rfl; omega
        omega
      · rw [if_neg (fun z => c ((nI_leI (by omega) (by omega)).mp z)), nI_1, isDear_one n (i + 1) (by omega)]
        exact ⟨1, rfl, Or.inl ⟨rfl, i, Nat.le_refl _, by omega, by omega⟩⟩
  obtain ⟨r, e1, e2⟩ := key 4 0 rfl
  exact ⟨r, e1, e2.iff ⟨fun ⟨wk, _, y, z⟩ => ⟨wk, y, z⟩, fun ⟨wk, y, z⟩ => ⟨wk, Nat.zero_le _, y, z⟩⟩⟩
theorem setS_wf {dc k v : Nat} (w : Wf S dc) (h : k = 1 → v ≤ 10) : Wf (setS S k (nI v)) dc := by
  refine ⟨?_, ?_, ?_⟩
  · rw [setS_ne (by decide), setS_ne (by decide), setS_ne (by decide)]; exact w.1
  · rw [setS_ne (by decide), setS_ne (by decide)]; exact w.2.1
  · rw [setS_10]
    by_cases y : (1 : Nat) = k
    · rw [← y, upd_same]; exact ⟨v, h y.symm, rfl⟩
    · rw [upd_ne y]; exact w.2.2
/-- what comes once the value is found right: r2 is the model's test -/
theorem set_core (I : INV S G Z N T M) (R : Pic) {dc gc k v : Nat} (sr : SR S (M 0) dc gc) (hk : k < 3) (hv1 : k = 1 → v ≤ 10) (hv2 : k = 2 → v ≤ 999) (hv : v ≤ 999) : f5_isAboveBudget (setS (f5_copyFrom R S) k (nI v)) = f5_isAboveBudget (setS S k (nI v)) ∧ (f5_isAboveBudget (setS S k (nI v)) = 0 → ∃ c r S' R' G' Z' b M', (bd (f6_at 3 (S 10) (nI k)) (fun v16 => (bd3 (f6_takeOverTrial S (setS (f5_copyFrom R S) k (nI v)) G Z) (fun u17 u18 u19 => ((0 : Int32), v16, u17, (setS (f5_copyFrom R S) k (nI v)), u18, u19))))) = (c, r, S', R', G', Z') ∧ (ob1 (f7_save (pset M 7 (fun _ => (0 : Int32)))) (fun u8 => (ck (nI k) 173 (bd ((u8 0) (ix (nI k))) (fun v11 => (ck (nI k) 173 (bd (pset u8 0 (upd (u8 0) (ix (nI k)) (nI v))) (fun Mb13 => (some (v11, Mb13)))))))))) = some (b, M') ∧ INV S' G' Z' N T M' ∧ an [1, 2, 3] c r b M') := by
  have h := sr.1
  have w := sr.2.1
  have hdc := h.1
  have hag := setS_ag (k := k) (v := nI v) (copy_ag R S)
  have h0 := setS_rel (k := k) (v := nI v) h hk
  have w0 := setS_wf (k := k) (v := v) w hv1
  have hX := ag_rel hag h0
  have wX := ag_wf hag hdc w0
  refine ⟨above_rel h0 w0 hX wX, fun ha => ?_⟩
  obtain ⟨X, eX⟩ : ∃ X : Pic, setS (f5_copyFrom R S) k (nI v) = X := ⟨_, rfl⟩
  rw [eX] at hag hX wX ⊢
  have s' : SR S ((pset M 7 (fun _ => (0 : Int32))) 0) dc gc := sr
  have hh' : HR G Z (pset M 7 (fun _ => (0 : Int32))) := I.2.1
  obtain ⟨G', Z', M2, z1, z2, z3, z4⟩ := take_over X (S := S) (G := G) (Z := Z) (M := pset M 7 (fun _ => (0 : Int32))) (dc := dc) (gc := gc) s' hh'
  have e20 : M2 0 = M 0 := z4 0 (by decide) (by decide)
  rw [z1, z2, ob1_some, f6_at_nI hk (by omega)]
  simp only [bd, bd3]
  rw [ck_nI (by omega) (by omega), ck_nI (by omega) (by omega), ix_nI (by omega), e20, h.2.2.2.2.2.2.2.2.1 k hk]
  have ss : SR (setS S k (nI v)) (upd (M 0) k (nI v)) dc gc := by
    refine ⟨h0, w0, fun e he hl => ?_, ?_, ?_, ?_, ha⟩
    · obtain ⟨d, q1, q2⟩ := (lo_iff hdc h0.2.2.1).mp hl
      rw [setS_ne (by decide)] at q2
      refine ap_snd (S := S) (fun c hc => ?_) (sr.2.2.1 e he ((lo_iff hdc h.2.2.1).mpr ⟨d, q1, q2⟩))
      unfold lastD
      rw [setS_ne (show (5 : Nat) ≠ 10 by decide), setS_ne (show (6 : Nat) ≠ 10 by decide), setS_ne (show (11 : Nat) ≠ 10 by decide)]
      exact ⟨rfl, rfl, rfl⟩
    · rw [setS_ne (by decide), setS_ne (by decide)]; exact sr.2.2.2.1
    · rw [setS_ne (by decide)]; exact sr.2.2.2.2.1
    · rw [setS_10]
      by_cases y : (2 : Nat) = k
      · rw [← y, upd_same]; exact ⟨v, hv2 y.symm, rfl⟩
      · rw [upd_ne y]; exact sr.2.2.2.2.2.1
  refine ⟨0, _, _, _, _, _, _, _, rfl, rfl, I.mk' (dc := dc) (gc := gc) ?_ (hr_same z3 ?_ ?_) (fun j q1 q2 => ?_), Or.inl ⟨rfl, ?_, rfl⟩⟩
  · rw [pset_same]
    exact ag_sr (copy_ag S X) (ag_sr hag ss)
  · rw [pset_ne (by decide)]
  · rw [pset_ne (by decide)]
  · rw [pset_ne (by omega), z4 j (by omega) (by omega), pset_ne (by omega)]
  · rw [pset_ne (by decide), z4 7 (by decide) (by decide), p7]
theorem st_set (I : INV S G Z N T M) (R : Pic) (p1 p2 : Int32) : ∃ c r S' R' G' Z' b M', f6_set S R G Z p1 p2 = (c, r, S', R', G', Z') ∧ f7_set M p1 p2 = some (b, M') ∧ INV S' G' Z' N T M' ∧ an [1, 2, 3] c r b M' := by
  obtain ⟨⟨dc, gc, sr⟩, hh, hn, ht⟩ := id I
  have h := sr.1
  have hdc := h.1
  rw [f6_set, f7_set]
  rcases wi_cs p1 (a := 0) (b := 2) (by omega) (by omega) with ⟨a, b⟩ | ⟨k, -, hk, rfl, a, b⟩
  · rw [if_pos (show f6_isWithin p1 0 2 = 0 from a), if_pos (show f7_isSetting p1 = 0 from b)]
    exact ⟨1, 0, S, R, G, Z, 0, _, rfl, rfl, I.e6 e7, an.th 0 rfl p7⟩
  rw [if_neg (show ¬ f6_isWithin (nI k) 0 2 = 0 by rw [show f6_isWithin (nI k) 0 2 = 1 from a]; decide), if_neg (show ¬ f7_isSetting (nI k) = 0 by rw [show f7_isSetting (nI k) = 1 from b]; decide)]
  -- the value's bounds
  have hb : ∃ lo hi : Nat, lo ≤ hi ∧ hi ≤ 999 ∧ (k = 1 → hi = 10) ∧ f6_leastValue (nI k) = nI lo ∧ f6_greatestValue (nI k) = nI hi ∧ f7_isValue (nI k) p2 = f7_within p2 (nI lo) (nI hi) := by
    have : k = 0 ∨ k = 1 ∨ k = 2 := by omega
    rcases this with rfl | rfl | rfl
    · exact ⟨0, 9, by omega, by omega, fun z => by omega, rfl, rfl, rfl⟩
    · exact ⟨1, 10, by omega, by omega, fun z => rfl, rfl, rfl, rfl⟩
    · exact ⟨0, 999, by omega, by omega, fun z => by omega, rfl, rfl, rfl⟩
  obtain ⟨lo', hi', hlh, hhi, hk1, el, eg, ev⟩ := hb
  rw [el, eg, ev]
  rcases wi_cs p2 (a := lo') (b := hi') (by omega) (by omega) with ⟨a, b⟩ | ⟨v, hv0, hv, rfl, a, b⟩
  · rw [if_pos a, if_pos b]
    exact ⟨2, 0, S, R, G, Z, 0, _, rfl, rfl, I.e6 e7, an.th 1 rfl p7⟩
  rw [if_neg (ne0 a), if_neg (ne0 b)]
  have eX : pset (f5_copyFrom R S) 10 (f6_put 3 ((f5_copyFrom R S) 10) (nI k) (nI v)) = setS (f5_copyFrom R S) k (nI v) := by
    rw [f6_put_nI (by omega) (by omega)]
    rfl
  obtain ⟨c1, c2⟩ := set_core I R (k := k) (v := v) sr (by omega) (fun z => by have := hk1 z; omega) (fun _ => by omega) (by omega)
  have w0 : Wf (setS S k (nI v)) dc := setS_wf sr.2.1 (fun z => by have := hk1 z; omega)
  simp only [bd] at c2 ⊢
  rw [eX, c1]
  by_cases y : k = 2
  · subst y
    obtain ⟨r, e1, e2⟩ := isDear_bl (b := v) h sr.2.1 sr.2.2.2.2.1 (by omega)
    have e3 := above_bl w0 hdc (b := v) (by rw [setS_ne (by decide)]; exact sr.2.2.2.2.1) (by omega) (by rw [setS_10, upd_same])
    have hwc : ∀ wk : Nat, WC (setS S 2 (nI v)) wk = WC S wk := fun wk => wc_same (setS_ne (by decide)) (setS_ne (by decide))
    have e4 : f5_isAboveBudget (setS S 2 (nI v)) = r := e3.one (e2.iff ⟨fun ⟨wk, q1, q2⟩ => ⟨wk, q1, by rw [hwc]; exact q2⟩, fun ⟨wk, q1, q2⟩ => ⟨wk, q1, by rw [hwc] at q2; exact q2⟩⟩)
    rw [if_pos (show nI 2 = (2 : Int32) from rfl), e1, ob1_some, e4]
    by_cases c : r = 0
    · rw [if_pos c, if_pos c]
      exact c2 (e4.trans c)
    · rw [if_neg c, if_neg c]
      exact ⟨3, 0, S, _, G, Z, 0, _, rfl, rfl, I.e6 e7, an.th 2 rfl p7⟩
  · have e4 : f5_isAboveBudget (setS S k (nI v)) = 0 := above_same sr.2.1 w0 hdc sr.2.2.2 (setS_ne (by decide)) (setS_ne (by decide)) (by rw [setS_10, upd_ne (fun z => y z.symm)])
    rw [if_neg (show ¬ nI k = (2 : Int32) from fun z => y ((nI_eq (b := 2) (by omega) (by omega)).mp z)), if_pos e4]
    exact c2 e4
end ST5
