/-- a cell that holds no dish of its part -/
def bad (P : Nat → Int32) (S1 : Nat → Int32) (dc c : Nat) : Prop := ¬ P c = -1 ∧ ¬ ∃ d : Nat, d < dc ∧ P c = nI d ∧ S1 d = nI (c % 3)
section RS
variable {S G N T M X : Pic} {Z : Nat → Pic} {dc gc k : Nat}
theorem copyTo_loop (hk : k < 2) : ∀ (n i : Nat) (f : Nat → Int32) (K : (Nat → Int32) → (Nat → Int32)), i + n = 84 → ∃ f' : Nat → Int32, f4_copyTo_L2 84 N (nI k) n (nI i) f K = K f' ∧ (∀ c : Nat, i ≤ c → c < 84 → f' c = N 0 (84 * k + c)) ∧ ∀ c : Nat, c < i → f' c = f c := by
  intro n
  induction n with
  | zero => intro i f K hi; exact ⟨f, rfl, fun c a b => by omega, fun _ _ => rfl⟩
  | succ n ih =>
    intro i f K hi
    have e1 : nI k * 84 + nI i = nI (84 * k + i) := by rw [show (84 : Int32) = nI 84 from rfl, pk_mul, nI_add, Nat.mul_comm]
    rw [f4_copyTo_L2, if_neg (gq84 (by omega)), e1, f6_at_nI (show 84 * k + i < 168 by omega) (by omega), f6_put_nI (show i < 84 by omega) (by omega), nI_1, bd_eq]
    obtain ⟨f', x1, x2, x3⟩ := ih (i + 1) (upd f i (N 0 (84 * k + i))) K (by omega)
    refine ⟨f', x1, fun c a b => ?_, fun c a => ?_⟩
    · rcases Nat.lt_or_ge c (i + 1) with y | y
      · rw [x3 c y, show c = i by omega, upd_same]
      · exact x2 c y b
    · rw [x3 c (by omega), upd_ne (by omega)]
theorem strange_loop (hdc : dc ≤ 12) (hz : X 0 0 = nI dc) (hP : ∀ c : Nat, c < 84 → X 11 c = -1 ∨ ∃ d : Nat, d < 12 ∧ X 11 c = nI d) : ∀ n i : Nat, i + n = 84 → bl (f5_hasStrangeDish_L2 X n (nI i) 0) (∃ c : Nat, i ≤ c ∧ c < 84 ∧ bad (X 11) (X 1) dc c) := by
  intro n
  induction n with
  | zero => intro i hi; exact Or.inr ⟨rfl, fun ⟨c, a, b, _⟩ => by omega⟩
  | succ n ih =>
    intro i hi
    have e3 : nI i - nI i / 3 * 3 = nI (i % 3) := pk_rem (d := 3) (by omega) (by omega) (by omega)
    have nxt : ¬ bad (X 11) (X 1) dc i → bl (f5_hasStrangeDish_L2 X n (nI i + 1) 0) (∃ c : Nat, i ≤ c ∧ c < 84 ∧ bad (X 11) (X 1) dc c) := fun hb => by
      rw [nI_1]
      refine (ih (i + 1) (by omega)).iff ⟨fun ⟨c, x, y, z⟩ => ⟨c, by omega, y, z⟩, fun ⟨c, x, y, z⟩ => ⟨c, ?_, y, z⟩⟩
      have : ¬ c = i := by rintro rfl; exact hb z
      omega
    rw [f5_hasStrangeDish_L2, if_neg (gq84 (by omega)), f6_at_nI (show i < 84 by omega) (by omega), bd_eq]
    rcases hP i (by omega) with q | ⟨d, hd, q⟩
    · rw [if_pos q]
      exact nxt (fun z => z.1 q)
    · rw [if_neg (by rw [q]; exact nI_ne_neg (by omega)), q]
      unfold f5_hasDish
      rw [if_neg (nI_pos (by omega)), hz]
      rcases Nat.lt_or_ge d dc with y | y
      · rw [if_neg (nI_ge y (by omega)), if_neg (show ¬ (1 : Int32) = 0 by decide), f6_at_nI hd (by omega), e3]
        by_cases c : X 1 d = nI (i % 3)
        · rw [if_pos c]
          exact nxt (fun z => z.2 ⟨d, y, q, c⟩)
        · rw [if_neg c]
          refine Or.inl ⟨rfl, i, Nat.le_refl _, by omega, by rw [q]; exact nI_ne_neg (by omega), ?_⟩
          rintro ⟨d', z1, z2, z3⟩
          have : d = d' := (nI_eq (by omega) (by omega)).mp (q.symm.trans z2)
          subst this
          exact c z3
      · rw [if_pos (nI_le y (by omega)), if_pos rfl]
        refine Or.inl ⟨rfl, i, Nat.le_refl _, by omega, by rw [q]; exact nI_ne_neg (by omega), ?_⟩
        rintro ⟨d', z1, z2, z3⟩
        have : d = d' := (nI_eq (by omega) (by omega)).mp (q.symm.trans z2)
        omega
theorem own_zero (hk : k < 2) : ∀ n i : Nat, i + n = 84 → f7_hasOwnParts_L4 M (nI k) n 0 (nI i) (fun x => some x) = some 0 := by
  intro n
  induction n with
  | zero => intro i _; rfl
  | succ n ih =>
    intro i hi
    have e1 : (84 : Int32) * nI k + nI i = nI (84 * k + i) := by rw [show (84 : Int32) = nI 84 from rfl, pk_mul, nI_add]
    rw [f7_hasOwnParts_L4, if_neg (gq84 (by omega)), e1, ck_nI (by omega) (by omega), bd_eq, if_pos rfl, nI_1]
    exact ih (i + 1) (by omega)
theorem own_loop (hk : k < 2) (h : Rel S (M 0) dc gc) (hP : ∀ c : Nat, c < 84 → M 3 (84 * k + c) = -1 ∨ ∃ d : Nat, d < 12 ∧ M 3 (84 * k + c) = nI d) : ∀ n i : Nat, i + n = 84 → ∃ r : Int32, f7_hasOwnParts_L4 M (nI k) n 1 (nI i) (fun x => some x) = some r ∧ bl r (∀ c : Nat, i ≤ c → c < 84 → ¬ bad (fun c => M 3 (84 * k + c)) (S 1) dc c) := by
  intro n
  induction n with
  | zero => intro i hi; exact ⟨1, rfl, Or.inl ⟨rfl, fun c a b => by omega⟩⟩
  | succ n ih =>
    intro i hi
    have hdc := h.1
    have e1 : (84 : Int32) * nI k + nI i = nI (84 * k + i) := by rw [show (84 : Int32) = nI 84 from rfl, pk_mul, nI_add]
    have e3 : nI i - nI i / 3 * 3 = nI (i % 3) := pk_rem (d := 3) (by omega) (by omega) (by omega)
    have nxt : ¬ bad (fun c => M 3 (84 * k + c)) (S 1) dc i → ∃ r : Int32, f7_hasOwnParts_L4 M (nI k) n 1 (nI i + 1) (fun x => some x) = some r ∧ bl r (∀ c : Nat, i ≤ c → c < 84 → ¬ bad (fun c => M 3 (84 * k + c)) (S 1) dc c) := fun hb => by
      rw [nI_1]
      obtain ⟨r, z1, z2⟩ := ih (i + 1) (by omega)
      refine ⟨r, z1, z2.iff ⟨fun z c x y => ?_, fun z c x y => z c (by omega) y⟩⟩
      by_cases q : c = i
      · rw [q]; exact hb
      · exact z c (by omega) y
    have stop : bad (fun c => M 3 (84 * k + c)) (S 1) dc i → ∃ r : Int32, f7_hasOwnParts_L4 M (nI k) n 0 (nI i + 1) (fun x => some x) = some r ∧ bl r (∀ c : Nat, i ≤ c → c < 84 → ¬ bad (fun c => M 3 (84 * k + c)) (S 1) dc c) := fun hb => by
      rw [nI_1, own_zero hk n (i + 1) (by omega)]
      exact ⟨0, rfl, Or.inr ⟨rfl, fun z => z i (Nat.le_refl _) (by omega) hb⟩⟩
    rw [f7_hasOwnParts_L4, if_neg (gq84 (by omega)), e1, ck_nI (by omega) (by omega), ix_nI (by omega), bd_eq, if_neg (show ¬ (1 : Int32) = 0 by decide)]
    rcases hP i (by omega) with q | ⟨d, hd, q⟩
    · rw [if_pos q]
      exact nxt (fun z => z.1 q)
    · have hne : ¬ M 3 (84 * k + i) = -1 := by rw [q]; exact nI_ne_neg (by omega)
      rw [if_neg hne, q]
      rcases dish_cs h (nI d) with ⟨-, b⟩ | ⟨j, hj, ej, -, b⟩
      · rw [if_pos b]
        refine stop ⟨hne, ?_⟩
        rintro ⟨d', z1, z2, z3⟩
        have z2' : M 3 (84 * k + i) = nI d' := z2
        have : d = d' := (nI_eq (by omega) (by omega)).mp (q.symm.trans z2')
        subst this
        rcases dish_cs h (nI d) with ⟨a, b⟩ | ⟨j, hj, ej, -, b'⟩
        · unfold f5_hasDish at a
          rw [if_neg (nI_pos (by omega)), h.2.2.1, if_neg (nI_ge z1 (by omega))] at a
          exact absurd a (by decide)
        · rw [b] at b'
          exact absurd b' (by decide)
      · have : d = j := (nI_eq (by omega) (by omega)).mp ej
        subst this
        have o0 : f7_of M (nI d) 0 = some (S 1 d) := h.of (k := 0) hj (by omega)
        rw [if_neg (ne0 b), o0, ob1_some, e3]
        by_cases c : S 1 d = nI (i % 3)
        · rw [if_pos c]
          exact nxt (fun z => z.2 ⟨d, hj, q, c⟩)
        · rw [if_neg c]
          refine stop ⟨hne, ?_⟩
          rintro ⟨d', z1, z2, z3⟩
          have z2' : M 3 (84 * k + i) = nI d' := z2
          have : d = d' := (nI_eq (by omega) (by omega)).mp (q.symm.trans z2')
          subst this
          exact c z3
theorem trade_loop (hk : k < 2) : ∀ (n i : Nat) (M : Pic) (K : Pic → Option Pic), i + n = 84 → ∃ M' : Pic, f7_trade_L2 (nI k) n (nI i) M K = K M' ∧ (∀ j : Nat, j ≠ 0 → j ≠ 3 → M' j = M j) ∧ (∀ c : Nat, i ≤ c → c < 84 → M' 0 (89 + c) = M 3 (84 * k + c) ∧ M' 3 (84 * k + c) = M 0 (89 + c)) ∧ (∀ q : Nat, (q < 89 + i ∨ 173 ≤ q) → M' 0 q = M 0 q) ∧ (∀ q : Nat, (q < 84 * k + i ∨ 84 * k + 84 ≤ q) → M' 3 q = M 3 q) := by
  intro n
  induction n with
  | zero => intro i M K hi; exact ⟨M, rfl, fun _ _ _ => rfl, fun c a b => by omega, fun _ _ => rfl, fun _ _ => rfl⟩
  | succ n ih =>
    intro i M K hi
    have e1 : (84 : Int32) * nI k + nI i = nI (84 * k + i) := by rw [show (84 : Int32) = nI 84 from rfl, pk_mul, nI_add]
    have e2 : (89 : Int32) + nI i = nI (89 + i) := by rw [show (89 : Int32) = nI 89 from rfl, nI_add]
    rw [f7_trade_L2, if_neg (gq84 (by omega)), e1, e2, ck_nI (by omega) (by omega), bd_eq, ck_nI (by omega) (by omega), ck_nI (by omega) (by omega), bd_eq, ck_nI (by omega) (by omega), bd_eq, ix_nI (by omega), ix_nI (by omega), nI_1]
    obtain ⟨M', x1, x2, x3, x4, x5⟩ := ih (i + 1) (pset (pset M 0 (upd (M 0) (89 + i) (M 3 (84 * k + i)))) 3 (upd ((pset M 0 (upd (M 0) (89 + i) (M 3 (84 * k + i)))) 3) (84 * k + i) (M 0 (89 + i)))) K (by omega)
    refine ⟨M', x1, fun j a b => by rw [x2 j a b, pset_ne b, pset_ne a], fun c a b => ?_, fun q a => ?_, fun q a => ?_⟩
    · rcases Nat.lt_or_ge c (i + 1) with y | y
      · have : c = i := by omega
        subst this
        rw [x4 (89 + c) (by omega), x5 (84 * k + c) (by omega), pset_ne (by decide), pset_same, pset_same, upd_same, upd_same]
        exact ⟨rfl, rfl⟩
      · obtain ⟨z1, z2⟩ := x3 c y b
        rw [z1, z2, pset_same, pset_ne (show (0 : Nat) ≠ 3 by decide), pset_same, pset_ne (show (3 : Nat) ≠ 0 by decide), upd_ne (by omega), upd_ne (by omega)]
        exact ⟨rfl, rfl⟩
    · rw [x4 q (by omega), pset_ne (by decide), pset_same, upd_ne (by omega)]
    · rw [x5 q (by omega), pset_same, pset_ne (by decide), upd_ne (by omega)]
theorem restoreM_loop (hk : k < 2) : ∀ (n i : Nat) (M : Pic) (K : Pic → Option (Int32 × Pic)), i + n = 84 → ∃ M' : Pic, f7_restore_L65 (nI k) n (nI i) M K = K M' ∧ (∀ j : Nat, j ≠ 0 → M' j = M j) ∧ (∀ c : Nat, i ≤ c → c < 84 → M' 0 (89 + c) = M 3 (84 * k + c)) ∧ (∀ q : Nat, q < 89 + i → M' 0 q = M 0 q) := by
  intro n
  induction n with
  | zero => intro i M K hi; exact ⟨M, rfl, fun _ _ => rfl, fun c a b => by omega, fun _ _ => rfl⟩
  | succ n ih =>
    intro i M K hi
    have e1 : (84 : Int32) * nI k + nI i = nI (84 * k + i) := by rw [show (84 : Int32) = nI 84 from rfl, pk_mul, nI_add]
    have e2 : (89 : Int32) + nI i = nI (89 + i) := by rw [show (89 : Int32) = nI 89 from rfl, nI_add]
    rw [f7_restore_L65, if_neg (gq84 (by omega)), e1, e2, ck_nI (by omega) (by omega), ck_nI (by omega) (by omega), bd_eq, ix_nI (by omega), ix_nI (by omega), nI_1]
    obtain ⟨M', x1, x2, x3, x4⟩ := ih (i + 1) (pset M 0 (upd (M 0) (89 + i) (M 3 (84 * k + i)))) K (by omega)
    refine ⟨M', x1, fun j hj => (x2 j hj).trans (pset_ne hj), fun c a b => ?_, fun q a => ?_⟩
    · rcases Nat.lt_or_ge c (i + 1) with y | y
      · rw [x4 (89 + c) (by omega), pset_same, show c = i by omega, upd_same]
      · rw [x3 c y b, pset_ne (by decide)]
    · rw [x4 q (by omega), pset_same, upd_ne (by omega)]
/-- a row with another plan -/
theorem rel_plan {S X : Pic} {z z' : Nat → Int32} (h : Rel S z dc gc) (xo : ∀ j : Nat, j ≠ 11 → X j = S j) (zo : ∀ q : Nat, q < 89 → z' q = z q) (hp : ∀ c : Nat, c < 84 → z' (89 + c) = X 11 c) : Rel X z' dc gc := by
  obtain ⟨r1, r2, r3, r4, r5, r6, r7, r8, r9, r10⟩ := h
  refine ⟨r1, r2, ?_, ?_, ?_, ?_, fun d k hd hk => ?_, fun g hg => ?_, fun k hk => ?_, hp⟩
  · rw [xo 0 (by decide)]; exact r3
  · rw [xo 7 (by decide)]; exact r4
  · rw [zo 3 (by omega)]; exact r5
  · rw [zo 4 (by omega)]; exact r6
  · rw [zo _ (by omega), xo (1 + k) (by omega)]; exact r7 d k hd hk
  · rw [zo _ (by omega), zo _ (by omega), xo 8 (by decide), xo 9 (by decide)]; exact r8 g hg
  · rw [zo _ (by omega), xo 10 (by decide)]; exact r9 k hk
theorem st_restore (I : INV S G Z N T M) (R Y : Pic) (p1 : Int32) : ∃ c r S' R' Y' G' Z' b M', f6_restore S R Y G Z N p1 = (c, r, S', R', Y', G', Z') ∧ f7_restore M p1 = some (b, M') ∧ INV S' G' Z' N T M' ∧ an [1, 3] c r b M' := by
  obtain ⟨⟨dc, gc, sr⟩, hh, hn, ht⟩ := id I
  rw [f6_restore, f7_restore]
  rcases wi_cs p1 (a := 0) (b := 1) (by omega) (by omega) with ⟨a, b⟩ | ⟨k, -, hk1, rfl, a, b⟩
  · rw [if_pos (show f6_isWithin p1 0 1 = 0 from a), if_pos (show f7_isSnapshot p1 = 0 from b)]
    exact ⟨1, 0, S, R, Y, G, Z, 0, _, rfl, rfl, I.e6 e7, an.th 0 rfl p7⟩
  have hk : k < 2 := by omega
  rw [if_neg (ne0 (show f6_isWithin (nI k) 0 1 = 1 from a)), if_neg (ne0 (show f7_isSnapshot (nI k) = 1 from b)), ck_nI hk (by omega), ix_nI (by omega)]
  have it : f4_isTaken N (nI k) = if N 1 k = 0 then 0 else 1 := by
    unfold f4_isTaken
    rw [if_neg (nI_pos (by omega)), if_neg (nI_ge hk (by omega)), ix_nI (by omega)]
  rcases hn k hk with ⟨q1, q2⟩ | ⟨q1, q2, q3⟩
  · rw [q1, if_pos rfl] at it
    rw [it, bd_eq, if_pos rfl, q2, if_neg (show ¬ (0 : Int32) = 1 by decide)]
    exact ⟨3, 0, S, R, Y, G, Z, 0, _, rfl, rfl, I.e6 e7, an.th 1 rfl p7⟩
  rw [q1, if_neg (show ¬ (1 : Int32) = 0 by decide)] at it
  rw [it, bd_eq, if_neg (show ¬ (1 : Int32) = 0 by decide), q2, if_pos (show (1 : Int32) = 1 from rfl), bd_eq]
  have h := sr.1
  have hdc := h.1
  have hag := copy_ag R S
  obtain ⟨U, eU⟩ : ∃ U : Pic, f5_copyFrom R S = U := ⟨_, rfl⟩
  rw [eU] at hag ⊢
  obtain ⟨f', c1, c2, -⟩ := copyTo_loop (N := N) hk 84 0 (U 11) (fun f_2 => f_2) rfl
  have ec : f4_copyTo 84 N (U 11) (nI k) = f' := c1
  rw [ec, bd_eq]
  obtain ⟨X, eX⟩ : ∃ X : Pic, pset U 11 f' = X := ⟨_, rfl⟩
  have xo : ∀ j : Nat, j ≠ 11 → X j = U j := fun j hj => by rw [← eX, pset_ne hj]
  have x11 : ∀ c : Nat, c < 84 → X 11 c = M 3 (84 * k + c) := fun c hc => by
    rw [← eX, pset_same, c2 c (Nat.zero_le _) hc]; exact (q3 c hc).1
  rw [eX]
  have hU := ag_sr hag sr
  have hz : X 0 0 = nI dc := by rw [xo 0 (by decide)]; exact hU.1.2.2.1
  have hP : ∀ c : Nat, c < 84 → M 3 (84 * k + c) = -1 ∨ ∃ d : Nat, d < 12 ∧ M 3 (84 * k + c) = nI d := fun c hc => (q3 c hc).2
  have bads : ∀ c : Nat, c < 84 → (bad (X 11) (X 1) dc c ↔ bad (fun c => M 3 (84 * k + c)) (S 1) dc c) := fun c hc => by
    unfold bad
    rw [x11 c hc, xo 1 (by decide)]
    refine and_congr_right fun _ => not_congr ⟨fun ⟨d, z1, z2, z3⟩ => ⟨d, z1, z2, ?_⟩, fun ⟨d, z1, z2, z3⟩ => ⟨d, z1, z2, ?_⟩⟩
    · rw [← hag.2.2.1 1 d (by omega) (by omega) (by omega)]; exact z3
    · rw [hag.2.2.1 1 d (by omega) (by omega) (by omega)]; exact z3
  have hst : bl (f5_hasStrangeDish X) (∃ c : Nat, 0 ≤ c ∧ c < 84 ∧ bad (X 11) (X 1) dc c) := strange_loop hdc hz (fun c hc => by rw [x11 c hc]; exact hP c hc) 84 0 rfl
  have h' : Rel S ((pset M 7 (fun _ => (0 : Int32))) 0) dc gc := h
  obtain ⟨ro, o1, o2⟩ := own_loop (M := pset M 7 (fun _ => (0 : Int32))) hk h' hP 84 0 rfl
  have o1' : f7_hasOwnParts (pset M 7 (fun _ => (0 : Int32))) (nI k) = some ro := o1
  rw [f7_goodThen, o1', ob1_some, bd_eq]
  by_cases cs : f5_hasStrangeDish X = 0
  · have hnb : ∀ c : Nat, c < 84 → ¬ bad (X 11) (X 1) dc c := fun c hc z => hst.is0 cs ⟨c, Nat.zero_le _, hc, z⟩
    have hro : ro = 1 := o2.pos (fun c _ hc z => hnb c hc ((bads c hc).mpr z))
    rw [if_pos cs, hro, if_neg (show ¬ (1 : Int32) = 0 by decide)]
    -- the trade
    obtain ⟨M1, t1, t2, t3, t4, t5⟩ := trade_loop hk 84 0 (pset M 7 (fun _ => (0 : Int32))) (fun M_2 => some M_2) rfl
    have t1' : f7_trade (pset M 7 (fun _ => (0 : Int32))) (nI k) = some M1 := t1
    have hX : Rel X (M1 0) dc gc := rel_plan hU.1 xo (fun q hq => t4 q (by omega)) (fun c hc => by rw [(t3 c (Nat.zero_le _) hc).1, x11 c hc, pset_ne (by decide)])
    have wX : Wf X dc := by
      refine ⟨?_, fun c hc => ?_, ?_⟩
      · rw [xo 1 (by decide), xo 5 (by decide), xo 6 (by decide)]; exact hU.2.1.1
      · rcases Decidable.em (X 11 c = -1) with z | z
        · exact Or.inl z
        · refine Or.inr ?_
          exact Classical.byContradiction fun z2 => hnb c hc ⟨z, z2⟩
      · rw [xo 10 (by decide)]; exact hU.2.1.2.2
    obtain ⟨r, Y', M2, g1, g2, g3, g4⟩ := isGood_eq Y hX wX
    obtain ⟨M3, u1, u2, u3, u4, u5⟩ := trade_loop hk 84 0 M2 (fun M_2 => some M_2) rfl
    have u1' : f7_trade M2 (nI k) = some M3 := u1
    have b0 : M3 0 = M 0 := by
      funext q
      by_cases y : 89 ≤ q ∧ q < 173
      · have := (u3 (q - 89) (Nat.zero_le _) (by omega)).1
        rw [show 89 + (q - 89) = q by omega] at this
        rw [this, g3 3 (by decide) (by decide), (t3 (q - 89) (Nat.zero_le _) (by omega)).2, show 89 + (q - 89) = q by omega]
        rfl
      · rw [u4 q (by omega), g3 0 (by decide) (by decide), t4 q (by omega)]
        rfl
    have b3 : M3 3 = M 3 := by
      funext q
      by_cases y : 84 * k ≤ q ∧ q < 84 * k + 84
      · have := (u3 (q - 84 * k) (Nat.zero_le _) (by omega)).2
        rw [show 84 * k + (q - 84 * k) = q by omega] at this
        rw [this, g3 0 (by decide) (by decide), (t3 (q - 84 * k) (Nat.zero_le _) (by omega)).1, show 84 * k + (q - 84 * k) = q by omega]
        rfl
      · rw [u5 q (by omega), g3 3 (by decide) (by decide), t5 q (by omega)]
        rfl
    have e3 : ∀ j : Nat, 1 ≤ j → j ≤ 6 → M3 j = M j := fun j y1 y2 => by
      by_cases y : j = 3
      · rw [y]; exact b3
      · rw [u2 j (by omega) y, g3 j (by omega) (by omega), t2 j (by omega) y, pset_ne (by omega)]
    have I3 : INV S G Z N T M3 := I.e6 (fun j hj => by
      by_cases y : j = 0
      · rw [y]; exact b0
      · exact e3 j (by omega) hj)
    rw [t1', ob1_some, g1, bd2_eq, g2, ob2_some, u1', ob1_some, ob2_some]
    by_cases c3 : r = 0
    · rw [if_pos c3, if_pos c3]
      exact ⟨3, 0, S, X, Y', G, Z, 0, _, rfl, rfl, I3.e6 e7, an.th 1 rfl p7⟩
    rw [if_neg c3, if_neg c3]
    have I4 : INV S G Z N T (pset M3 7 (fun _ => (0 : Int32))) := I3.e6 e7
    obtain ⟨G', Z', M4, z1, z2, z3, z4⟩ := take_over X (S := S) (G := G) (Z := Z) (M := pset M3 7 (fun _ => (0 : Int32))) (dc := dc) (gc := gc) (by rw [pset_ne (by decide), b0]; exact sr) I4.2.1
    have e40 : M4 0 = M 0 := (z4 0 (by decide) (by decide)).trans ((pset_ne (by decide)).trans b0)
    have e43 : M4 3 = M 3 := (z4 3 (by decide) (by decide)).trans ((pset_ne (by decide)).trans b3)
    obtain ⟨M5, v1, v2, v3, v4⟩ := restoreM_loop hk 84 0 M4 (fun M_65 => (ob1 (f7_dishesInPlan M_65) (fun r18 => (some (r18, M_65))))) rfl
    have hX5 : Rel X (M5 0) dc gc := rel_plan hU.1 xo (fun q hq => by rw [v4 q (by omega), e40]) (fun c hc => by rw [v3 c (Nat.zero_le _) hc, e43, x11 c hc])
    have sX : SR X (M5 0) dc gc := by
      refine good_sr hU hX5 wX (g4 c3).1 (g4 c3).2 (fun d hd => ?_) ?_
      · rw [xo 5 (by decide), xo 6 (by decide), xo 2 (by decide)]; exact ⟨rfl, rfl, rfl⟩
      · rw [xo 10 (by decide)]
    have sF' : SR (f5_copyFrom S X) (M5 0) dc gc := ag_sr (copy_ag S X) sX
    rw [nI_0] at v1
    rw [z1, bd3_eq, bd_eq, z2, ob1_some, v1, dishesInPlan_eq sF'.1, ob1_some]
    refine ⟨0, _, _, _, _, _, _, _, _, rfl, rfl, I.mk' (dc := dc) (gc := gc) sF' (hr_same z3 (v2 1 (by decide)) (v2 2 (by decide))) (fun j q1 q2 => ?_), Or.inl ⟨rfl, ?_, rfl⟩⟩
    · rw [v2 j (by omega), z4 j (by omega) (by omega), pset_ne (by omega), e3 j (by omega) q2]
    · rw [v2 7 (by decide), z4 7 (by decide) (by decide), p7]
  · obtain ⟨c, -, hc, hb⟩ := hst.ne0 cs
    have hro : ro = 0 := o2.neg (fun z => z c (Nat.zero_le _) hc ((bads c hc).mp hb))
    rw [if_neg cs, hro, if_pos rfl, ob2_some, if_pos rfl]
    exact ⟨3, 0, S, X, Y, G, Z, 0, _, rfl, rfl, (I.e6 e7).e6 e7, an.th 1 rfl p7⟩
end RS
