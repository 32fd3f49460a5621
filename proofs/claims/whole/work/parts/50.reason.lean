theorem lo_iff {S : Pic} {dc e : Nat} (hdc : dc ≤ 12) (hz : S 0 0 = nI dc) : lo S e ↔ ∃ d : Nat, d < dc ∧ S 5 d = nI e :=
  ⟨fun h => (isLo_bl (nI e) hdc hz).ne0 h, fun h z => (isLo_bl (nI e) hdc hz).is0 z h⟩
/-- the state with something else at a cell of the plan -/
def putS (S : Pic) (x : Nat) (v : Int32) : Pic := pset S 11 (upd (S 11) x v)
theorem putS_ne {S : Pic} {x k : Nat} {v : Int32} (h : k ≠ 11) : putS S x v k = S k := pset_ne h
theorem putS_at {S : Pic} {x c : Nat} {v : Int32} (h : c ≠ x) : putS S x v 11 c = S 11 c := by
  unfold putS; rw [pset_same, upd_ne h]
theorem putS_x {S : Pic} {x : Nat} {v : Int32} : putS S x v 11 x = v := by
  unfold putS; rw [pset_same, upd_same]
theorem putS_back {S : Pic} {x : Nat} {v u : Int32} (hx : S 11 x = u) : pset (putS S x v) 11 (upd ((putS S x v) 11) x u) = S := by
  funext k c
  by_cases q : k = 11
  · subst q
    rw [pset_same]
    by_cases y : c = x
    · rw [y, upd_same, hx]
    · rw [upd_ne y, putS_at y]
  · rw [pset_ne q, putS_ne q]
theorem putS_wf {S : Pic} {dc x e : Nat} (w : Wf S dc) (he : e < dc) (hp : S 1 e = nI (x % 3)) : Wf (putS S x (nI e)) dc := by
  refine ⟨fun d hd => ?_, fun c hc => ?_, ?_⟩
  · rw [putS_ne (by decide), putS_ne (by decide), putS_ne (by decide)]
    exact w.1 d hd
  · rw [putS_ne (show (1 : Nat) ≠ 11 by decide)]
    by_cases y : c = x
    · rw [y, putS_x]
      exact Or.inr ⟨e, he, rfl, hp⟩
    · rw [putS_at y]
      exact w.2.1 c hc
  · rw [putS_ne (by decide)]
    exact w.2.2
theorem putS_wf0 {S : Pic} {dc x : Nat} (w : Wf S dc) : Wf (putS S x (-1)) dc := by
  refine ⟨fun d hd => ?_, fun c hc => ?_, ?_⟩
  · rw [putS_ne (by decide), putS_ne (by decide), putS_ne (by decide)]
    exact w.1 d hd
  · rw [putS_ne (show (1 : Nat) ≠ 11 by decide)]
    by_cases y : c = x
    · rw [y, putS_x]
      exact Or.inl rfl
    · rw [putS_at y]
      exact w.2.1 c hc
  · rw [putS_ne (by decide)]
    exact w.2.2
theorem putS_rel {S : Pic} {z : Nat → Int32} {dc gc x : Nat} {v : Int32} (h : Rel S z dc gc) (hx : x < 84) : Rel (putS S x v) (upd z (89 + x) v) dc gc := by
  obtain ⟨h1, h2, h3, h4, h5, h6, h7, h8, h9, h10⟩ := h
  refine ⟨h1, h2, ?_, ?_, ?_, ?_, fun d k hd hk => ?_, fun g hg => ?_, fun k hk => ?_, fun c hc => ?_⟩
  · rw [putS_ne (by decide)]; exact h3
  · rw [putS_ne (by decide)]; exact h4
  · rw [upd_ne (by omega)]; exact h5
  · rw [upd_ne (by omega)]; exact h6
  · rw [upd_ne (by omega), putS_ne (by omega)]; exact h7 d k hd hk
  · rw [upd_ne (by omega), upd_ne (by omega), putS_ne (by decide), putS_ne (by decide)]; exact h8 g hg
  · rw [upd_ne (by omega), putS_ne (by decide)]; exact h9 k hk
  · by_cases y : c = x
    · rw [y, upd_same, putS_x]
    · rw [upd_ne (by omega), putS_at y]; exact h10 c hc
theorem f7_put_nI {M : Pic} {d p : Nat} {v : Int32} (h : 3 * d + p < 84) : f7_put M (nI d) (nI p) v = some (pset M 0 (upd (M 0) (89 + (3 * d + p)) v)) := by
  unfold f7_put
  rw [show (89 : Int32) = nI 89 from rfl, show (3 : Int32) = nI 3 from rfl, pk_mul, nI_add, nI_add, ck_nI (by omega) (by omega), ix_nI (by omega), Nat.add_assoc]
  rfl
theorem gd_put {S : Pic} {dc x e : Nat} (hdc : dc ≤ 12) (hz : S 0 0 = nI dc) (g : gd S dc) (he : e < dc) (hx : S 11 x = -1) : gd (putS S x (nI e)) dc ↔ (lo S e → snd (putS S x (nI e)) e) := by
  have hz' : putS S x (nI e) 0 0 = nI dc := by rw [putS_ne (by decide)]; exact hz
  have hlo : ∀ a : Nat, lo (putS S x (nI e)) a ↔ lo S a := fun a => by
    rw [lo_iff hdc hz', lo_iff hdc hz, putS_ne (by decide)]
  constructor
  · intro h hl
    exact h e he ((hlo e).mpr hl)
  · intro h a ha hl
    have hl' := (hlo a).mp hl
    by_cases y : a = e
    · subst y; exact h hl'
    · refine mono (x0 := x) hx ?_ (putS_ne (by decide)) (putS_ne (by decide)) (fun c hc => putS_at hc) (by omega) (g a ha hl')
      rw [putS_x]
      exact fun z => y ((nI_eq (by omega) (by omega)).mp z).symm
theorem stay_eq {S : Pic} {dc x e : Nat} (w : Wf S dc) (hdc : dc ≤ 12) (hz : S 0 0 = nI dc) (he : e < dc) (hx84 : x < 84) (hx : S 11 x = -1) (hp : S 1 e = nI (x % 3)) (Y : Pic) : ∃ (r : Int32) (Y' : Pic), f1_staySoundWith Y S (nI x) (nI e) = (r, Y', S) ∧ bl r (lo S e → snd (putS S x (nI e)) e) := by
  rw [f1_staySoundWith]
  simp only [bd]
  by_cases hl : f5_isLeftover S (nI e) = 0
  · rw [if_pos hl]
    exact ⟨1, Y, rfl, Or.inl ⟨rfl, fun z => absurd hl z⟩⟩
  · rw [if_neg hl, f6_put_nI hx84 (by omega)]
    obtain ⟨r, Y', e1, hr, -, -, -, -⟩ := pr_eq (putS_wf w he hp) hdc he (f1_forget Y) (fun c hc _ => forget_1 hc)
    rw [show pset S 11 (upd (S 11) x (nI e)) = putS S x (nI e) from rfl, e1]
    simp only [bd2]
    rw [f6_put_nI hx84 (by omega), putS_back hx]
    exact ⟨r, Y', rfl, hr.iff ⟨fun z _ => z, fun z => z hl⟩⟩
theorem sw_eq {S M : Pic} {dc gc day p : Nat} {v : Int32} (h : Rel S (M 0) dc gc) (hd : day < 28) (hp : p < 3) (w : Wf (putS S (3 * day + p) v) dc) : ∃ (r : Int32) (M' : Pic), f7_soundWith M (nI day) (nI p) v = some (r, M') ∧ Fr M M' ∧ bl r (gd (putS S (3 * day + p) v) dc) := by
  have hx : 3 * day + p < 84 := by omega
  have hrel : Rel (putS S (3 * day + p) v) ((pset M 0 (upd (M 0) (89 + (3 * day + p)) v)) 0) dc gc := by rw [pset_same]; exact putS_rel h hx
  obtain ⟨r, M', e1, hf, hr, -, -, -⟩ := match_eq hrel w
  rw [f7_soundWith, h.at hd hp, ob1_some, f7_put_nI hx, ob1_some, e1, ob2_some, f7_put_nI hx, ob1_some]
  refine ⟨r, _, rfl, fun j a b => ?_, hr⟩
  by_cases q : j = 0
  · subst q
    rw [pset_same, hf.zero, pset_same]
    funext i
    by_cases y : i = 89 + (3 * day + p)
    · rw [y, upd_same]
      exact (h.2.2.2.2.2.2.2.2.2 _ hx).symm
    · rw [upd_ne y, upd_ne y]
  · rw [pset_ne q, hf j a b, pset_ne q]
/-- a dish that can be put -/
def ok (S : Pic) (dc x p e : Nat) : Prop := S 11 x = -1 ∧ S 1 e = nI p ∧ gd (putS S x (nI e)) dc ∧ f5_weekCost S (nI (x / 21)) + S 2 e ≤ S 10 2
theorem isBetter_eq {S : Pic} (a : Int32) {i d : Nat} (hi : i < 12) (hd : d < 12) : f2_isBetter S a (nI i) (nI d) = if 0 < f2_joyOfDish S a (nI i) - f2_joyOfDish S a (nI d) then 1 else if f2_joyOfDish S a (nI i) - f2_joyOfDish S a (nI d) = 0 then if S 2 d ≤ S 2 i then 0 else 1 else 0 := by
  rw [f2_isBetter, f6_at_nI hd (by omega), f6_at_nI hi (by omega), bd_eq, bd_eq, bd_eq]
section RE
variable {S M Y : Pic} {dc gc : Nat}
theorem reason_eq (Y : Pic) (h : Rel S (M 0) dc gc) (w : Wf S dc) (g : gd S dc) {day p e : Nat} (hd : day < 28) (hp : p < 3) (he : e < dc) : ∃ (r : Int32) (Y' M' : Pic), f2_reasonAgainst Y S (nI day) (nI p) (nI e) = (r, Y', S) ∧ f7_reason M (nI day) (nI p) (nI e) = some (r, M') ∧ Fr M M' ∧ (r = 0 → ok S dc (3 * day + p) p e) := by
  have hdc := h.1
  have hz := h.2.2.1
  have hx : 3 * day + p < 84 := by omega
  have a84 : f6_at 84 (S 11) (nI (3 * day + p)) = S 11 (3 * day + p) := f6_at_nI hx (by omega)
  have a1 : f6_at 12 (S 1) (nI e) = S 1 e := f6_at_nI (by omega) (by omega)
  have a2 : f6_at 12 (S 2) (nI e) = S 2 e := f6_at_nI (by omega) (by omega)
  have a10 : f6_at 3 (S 10) 2 = S 10 2 := f6_at_nI (n := 3) (j := 2) (f := S 10) (by omega) (by omega)
  have z2 : M 0 (ix (2 : Int32)) = S 10 2 := h.2.2.2.2.2.2.2.2.1 2 (by omega)
  have o0 : f7_of M (nI e) 0 = some (S 1 e) := h.of (k := 0) he (by omega)
  have o1 : f7_of M (nI e) 1 = some (S 2 e) := h.of (k := 1) he (by omega)
  have e7 : nI day / 7 = nI (day / 7) := pk_div (d := 7) (by omega) (by omega) (by omega)
  rw [f2_reasonAgainst, f7_reason, f6_cellOf_nI, h.at hd hp, ob1_some]
  simp only [bd]
  rw [a84, a1, a2, a10, o0, ob1_some, o1, z2, e7]
  by_cases c1 : S 11 (3 * day + p) = -1
  · rw [if_pos c1, if_pos c1]
    by_cases c2 : S 1 e = nI p
    · rw [if_pos c2, if_pos c2, isVetoed_eq h _ he, ob1_some]
      by_cases c3 : f5_isVetoed S (nI day) (nI e) = 0
      · rw [if_pos c3, if_pos c3, weekCost_eq h w (by omega), ob1_some, ob1_some]
        by_cases c4 : f5_weekCost S (nI (day / 7)) + S 2 e ≤ S 10 2
        · rw [if_pos c4, if_pos c4]
          have hp' : S 1 e = nI ((3 * day + p) % 3) := by rw [c2, show (3 * day + p) % 3 = p by omega]
          obtain ⟨r, Y', e1, hr⟩ := stay_eq w hdc hz he hx c1 hp' Y
          obtain ⟨r', M', e2, hf, hr'⟩ := sw_eq (v := nI e) h hd hp (putS_wf w he hp')
          have hgp := gd_put hdc hz g he c1
          have : r = r' := hr.one (hr'.iff hgp)
          subst this
          rw [e1, e2, ob2_some]
          simp only [bd3]
          by_cases c5 : r = 0
          · rw [if_pos c5, if_pos c5]
            exact ⟨5, Y', M', rfl, rfl, hf, fun z => absurd z (by decide)⟩
          · rw [if_neg c5, if_neg c5]
            exact ⟨0, Y', M', rfl, rfl, hf, fun _ => ⟨c1, c2, hr'.ne0 c5, by rw [show (3 * day + p) / 21 = day / 7 by omega]; exact c4⟩⟩
        · rw [if_neg c4, if_neg c4]
          exact ⟨4, Y, M, rfl, rfl, Fr.rfl', fun z => absurd z (by decide)⟩
      · rw [if_neg c3, if_neg c3]
        exact ⟨3, Y, M, rfl, rfl, Fr.rfl', fun z => absurd z (by decide)⟩
    · rw [if_neg c2, if_neg c2]
      exact ⟨2, Y, M, rfl, rfl, Fr.rfl', fun z => absurd z (by decide)⟩
  · rw [if_neg c1, if_neg c1]
    exact ⟨1, Y, M, rfl, rfl, Fr.rfl', fun z => absurd z (by decide)⟩
theorem canServe_eq (Y : Pic) (h : Rel S (M 0) dc gc) (w : Wf S dc) (g : gd S dc) {day p e : Nat} (hd : day < 28) (he : e < dc) (hp : p < 3) (h1 : S 1 e = nI p) : ∃ (r : Int32) (Y' M' : Pic), f2_reasonAgainst Y S (nI day) (nI p) (nI e) = (r, Y', S) ∧ f7_canServe M (nI day) (nI e) = some (if r = 0 then 1 else 0, M') ∧ Fr M M' ∧ (r = 0 → ok S dc (3 * day + p) p e) := by
  obtain ⟨r, Y', M', e1, e2, hf, ho⟩ := reason_eq Y h w g hd hp he
  have o0 : f7_of M (nI e) 0 = some (nI p) := by rw [← h1]; exact h.of (k := 0) he (by omega)
  refine ⟨r, Y', M', e1, ?_, hf, ho⟩
  rw [f7_canServe, o0, ob1_some, e2, ob2_some]
  by_cases c : r = 0
  · rw [if_pos c, if_pos c]
  · rw [if_neg c, if_neg c]
theorem bf_loop (w : Wf S dc) (g : gd S dc) {day p : Nat} (hd : day < 28) (hp : p < 3) : ∀ (n i : Nat) (Y M : Pic) (b : Int32), i ≤ dc → dc + 1 ≤ i + n → Rel S (M 0) dc gc → (b = -1 ∨ ∃ d : Nat, d < dc ∧ b = nI d ∧ ok S dc (3 * day + p) p d) → ∃ (r : Int32) (Y' M' : Pic), f2_bestDish_L5 (nI day) (nI p) n b (nI i) Y S (fun a b c => some (a, b, c)) = some (r, Y', S) ∧ f7_bestFor_L5 (nI day) (nI p) n b (nI i) M (fun a b => some (a, b)) = some (r, M') ∧ Fr M M' ∧ (r = -1 ∨ ∃ d : Nat, d < dc ∧ r = nI d ∧ ok S dc (3 * day + p) p d) := by
  intro n
  induction n with
  | zero => intro i Y M b h1 h2; omega
  | succ n ih =>
    intro i Y M b h1 h2 h hb
    have hdc := h.1
    have e3 : M 0 (ix (3 : Int32)) = nI dc := h.2.2.2.2.1
    rw [f2_bestDish_L5, f7_bestFor_L5, h.2.2.1, e3]
    rcases Nat.lt_or_ge i dc with q | q
    · rw [if_neg (nI_ge q (by omega)), if_neg (nI_ge q (by omega))]
      obtain ⟨r, Y1, M1, x1, x2, hf, ho⟩ := reason_eq Y h w g hd hp q
      rw [x1, x2, ob2_some]
      simp only [bd3]
      have go : ∀ b' : Int32, (b' = -1 ∨ ∃ d : Nat, d < dc ∧ b' = nI d ∧ ok S dc (3 * day + p) p d) → ∃ (r : Int32) (Y' M' : Pic), f2_bestDish_L5 (nI day) (nI p) n b' (nI i + 1) Y1 S (fun a b c => some (a, b, c)) = some (r, Y', S) ∧ f7_bestFor_L5 (nI day) (nI p) n b' (nI i + 1) M1 (fun a b => some (a, b)) = some (r, M') ∧ Fr M M' ∧ (r = -1 ∨ ∃ d : Nat, d < dc ∧ r = nI d ∧ ok S dc (3 * day + p) p d) := by
        intro b' hb'
        rw [nI_1]
        obtain ⟨r', Y2, M2, y1, y2, hf2, ho2⟩ := ih (i + 1) Y1 M1 b' (by omega) (by omega) (hf.rel h) hb'
        exact ⟨r', Y2, M2, y1, y2, hf.trans hf2, ho2⟩
      by_cases c : r = 0
      · rw [if_pos c, if_pos c]
        have hi : (nI i = -1 ∨ ∃ d : Nat, d < dc ∧ nI i = nI d ∧ ok S dc (3 * day + p) p d) := Or.inr ⟨i, q, rfl, ho c⟩
        rcases hb with hb | ⟨d, hd1, hb, hd2⟩
        · rw [if_pos hb, if_pos hb]
          exact go _ hi
        · subst hb
          have hself : (nI d = -1 ∨ ∃ d' : Nat, d' < dc ∧ nI d = nI d' ∧ ok S dc (3 * day + p) p d') := Or.inr ⟨d, hd1, rfl, hd2⟩
          have hne : ¬ nI d = -1 := nI_ne_neg (by omega)
          have o1 : f7_of M1 (nI i) 1 = some (S 2 i) := (hf.rel h).of (k := 1) q (by omega)
          have o2 : f7_of M1 (nI d) 1 = some (S 2 d) := (hf.rel h).of (k := 1) hd1 (by omega)
          have ib := isBetter_eq (S := S) (nI day) (show i < 12 by omega) (show d < 12 by omega)
          rw [if_neg hne, if_neg hne, joyNow_eq (hf.rel h) w (by omega) q, ob1_some, joyNow_eq (hf.rel h) w (by omega) hd1, ob1_some, bd_eq, bd_eq, o1, ob1_some, o2, ob1_some]
          by_cases c1 : 0 < f2_joyOfDish S (nI day) (nI i) - f2_joyOfDish S (nI day) (nI d)
          · rw [if_pos c1] at ib
            rw [ib, if_neg (by decide), if_pos c1]
            exact go _ hi
          · rw [if_neg c1] at ib
            by_cases c2 : f2_joyOfDish S (nI day) (nI i) - f2_joyOfDish S (nI day) (nI d) = 0
            · rw [if_pos c2] at ib
              by_cases c3 : S 2 d ≤ S 2 i
              · rw [if_pos c3] at ib
                rw [ib, if_pos rfl, if_neg c1, if_pos c2, if_pos c3]
                exact go _ hself
              · rw [if_neg c3] at ib
                rw [ib, if_neg (by decide), if_neg c1, if_pos c2, if_neg c3]
                exact go _ hi
            · rw [if_neg c2] at ib
              rw [ib, if_pos rfl, if_neg c1, if_neg c2]
              exact go _ hself
      · rw [if_neg c, if_neg c]
        exact go b hb
    · rw [if_pos (nI_le q (by omega)), if_pos (nI_le q (by omega))]
      exact ⟨b, Y, M, rfl, rfl, Fr.rfl', hb⟩
theorem bestFor_eq (Y : Pic) (h : Rel S (M 0) dc gc) (w : Wf S dc) (g : gd S dc) {day p : Nat} (hd : day < 28) (hp : p < 3) : ∃ (r : Int32) (Y' M' : Pic), f2_bestDish Y S (nI day) (nI p) = some (r, Y', S) ∧ f7_bestFor M (nI day) (nI p) = some (r, M') ∧ Fr M M' ∧ (r = -1 ∨ ∃ d : Nat, d < dc ∧ r = nI d ∧ ok S dc (3 * day + p) p d) := by
  have hdc := h.1
  exact bf_loop w g hd hp 13 0 Y M (-1) (Nat.zero_le _) (by omega) h (Or.inl rfl)
end RE
