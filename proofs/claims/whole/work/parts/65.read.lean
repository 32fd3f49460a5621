section RD
variable {S G N T M : Pic} {Z : Nat → Pic} {L : Nat}
theorem parse_loop (h : CD T L) : ∀ (m k fu : Nat) (M : Pic) (pl rd st : Nat), k + m = L → m < fu → (∀ i : Nat, i < L → M 6 i = T 0 i) → M 5 0 = nI L → PS T M L k pl rd st → ∃ (R : Int32) (M' : Pic), f3_errorIndex_L4 T m (nI pl) (nI k) (nI L) = R ∧ f7_rightUpTo_L12 fu (nI k) M (fun a b => some (a, b)) = some (R, M') ∧ Fx M M' ∧ ((R = nI L ∧ ∃ pl' rd' st' : Nat, PS T M' L L pl' rd' st') ∨ ∃ j : Nat, j < L ∧ R = nI j) := by
  intro m
  induction m with
  | zero =>
    intro k fu M pl rd st hk hf h6 h5 p
    obtain ⟨f, rfl⟩ : ∃ f, fu = f + 1 := ⟨fu - 1, by omega⟩
    have : k = L := by omega
    subst this
    have hL := h.1
    rw [f3_errorIndex_L4, f7_rightUpTo_L12, h5, if_pos (nI_le (Nat.le_refl _) (by omega))]
    exact ⟨_, M, rfl, rfl, Fx.r, Or.inl ⟨rfl, pl, rd, st, p⟩⟩
  | succ m ih =>
    intro k fu M pl rd st hk hf h6 h5 p
    obtain ⟨f, rfl⟩ : ∃ f, fu = f + 1 := ⟨fu - 1, by omega⟩
    have hL := h.1
    rw [f3_errorIndex_L4, f7_rightUpTo_L12, h5, h.2.1, if_neg (nI_ge (by omega) (by omega)), if_neg (nI_ge (by omega) (by omega)), f6_at_nI (show k < 60 by omega) (by omega), ck_nI (by omega) (by omega), ix_nI (by omega), h6 k (by omega), bd_eq]
    obtain ⟨t, M1, x1, x2, x3⟩ := tk_step h (show k < L by omega) p
    rw [x1, ob2_some]
    rcases x3 with ⟨rfl, y⟩ | ⟨rfl, pl', rd', st', hp6, y, p'⟩
    · rw [y, if_pos rfl, if_pos rfl]
      exact ⟨_, M1, rfl, rfl, x2, Or.inr ⟨k, by omega, rfl⟩⟩
    · rw [y, if_neg (nI_ne_neg (by omega)), if_neg (show ¬ (1 : Int32) = 0 by decide), nI_1]
      obtain ⟨R, M', z1, z2, z3, z4⟩ := ih (k + 1) f M1 pl' rd' st' (by omega) (by omega) (fun i hi => by rw [x2 6 (by decide) (by decide) (by decide) (by decide)]; exact h6 i hi) (by rw [x2 5 (by decide) (by decide) (by decide) (by decide)]; exact h5) p'
      exact ⟨R, M', z1, z2, x2.tr z3, z4⟩
theorem tx_cd (ht : TX T M) : ∃ L : Nat, CD T L ∧ M 5 0 = nI L ∧ ∀ i : Nat, i < L → M 6 i = T 0 i := by
  obtain ⟨L, hL, t1, m5, hc⟩ := ht
  refine ⟨L, ⟨hL, t1, fun i hi => ?_⟩, m5, fun i hi => (hc i hi).1.symm⟩
  obtain ⟨a, b, b1, b2, b3⟩ := hc i hi
  have : cd T i = b := by unfold cd; rw [a, b3, ix_nI (by omega)]
  rw [this]
  exact ⟨a.trans b3, b1, b2⟩
theorem parse_eq (h : CD T L) (h5 : M 5 0 = nI L) (h6 : ∀ i : Nat, i < L → M 6 i = T 0 i) : ∃ (R : Int32) (M' : Pic), f3_errorIndex T = R ∧ f7_rightUpTo M = some (R, M') ∧ Fx M M' ∧ ((R = nI L ∧ ∃ pl rd st : Nat, PS T M' L L pl rd st) ∨ ∃ j : Nat, j < L ∧ R = nI j) := by
  have hL := h.1
  have f1 : fuelN (0 : Int32) (nI L) = L := by rw [← nI_0, fuelN_nI (by omega) (by omega)]; rfl
  have p0 : PS T (pset (pset M 11 (fun _ => 0)) 13 (fun _ => 0)) L 0 0 0 0 := by
    refine ⟨?_, Nat.le_refl _, Nat.le_refl _, ⟨rfl, Or.inl rfl⟩, fun j a b => by omega, fun e he => by omega, Or.inl ⟨rfl, ?_, rfl⟩⟩
    · rw [pset_ne (by decide), pset_same]; rfl
    · rw [pset_same]
  obtain ⟨R, M', z1, z2, z3, z4⟩ := parse_loop h L 0 61 (pset (pset M 11 (fun _ => 0)) 13 (fun _ => 0)) 0 0 0 (by omega) (by omega) (fun i hi => by rw [pset_ne (by decide), pset_ne (by decide)]; exact h6 i hi) (by rw [pset_ne (by decide), pset_ne (by decide)]; exact h5) p0
  rw [nI_0] at z1 z2
  refine ⟨R, M', ?_, ?_, ((Fx.r.p (by omega)).p (by omega)).tr z3, z4⟩
  · rw [f3_errorIndex, h.2.1, f1]; exact z1
  · rw [f7_rightUpTo]; exact z2
theorem INV.fx (I : INV S G Z N T M) {M' : Pic} (h : Fx M M') : INV S G Z N T M' := I.e6 h.e6
theorem st_firstError (I : INV S G Z N T M) : ∃ r M', f6_firstError T = r ∧ f7_firstError M = some (r, M') ∧ INV S G Z N T M' := by
  obtain ⟨s, hh, hn, ht⟩ := id I
  obtain ⟨L, h, h5, h6⟩ := tx_cd ht
  obtain ⟨R, M', z1, z2, z3, -⟩ := parse_eq (M := pset M 7 (fun _ => (0 : Int32))) h h5 h6
  rw [f6_firstError, f7_firstError, z1, z2, bd_eq, ob2_some]
  exact ⟨R, M', rfl, rfl, (I.e6 e7).fx z3⟩
/-- at the end of the text: a complete plan or none -/
theorem PS_end (h : CD T L) {pl rd st : Nat} (p : PS T M L L pl rd st) : (M 13 0 = 3 ∧ f6_at 60 (T 0) (nI L - 2) = 61 ∧ M 11 0 = nI rd ∧ rd ≤ 12 ∧ nS T L = rd ∧ ∀ e : Nat, e ≤ rd → ent T M L e) ∨ (¬ M 13 0 = 3 ∧ ¬ f6_at 60 (T 0) (nI L - 2) = 61) := by
  have hL := h.1
  have hat : 2 ≤ L → (f6_at 60 (T 0) (nI L - 2) = 61 ↔ cd T (L - 2) = 61) := fun h2 => by
    rw [show nI L - 2 = nI (L - 2) from pk_sub (b := 2) h2]
    exact h.is (k := 61) (by omega) (by omega)
  have hlow : L < 2 → ¬ f6_at 60 (T 0) (nI L - 2) = 61 := fun h2 => by
    have : f6_at 60 (T 0) (nI L - 2) = -1 := by
      unfold f6_at
      rw [if_pos (show nI L - 2 < 0 from pk_sneg (b := 2) (by omega) h2)]
    rw [this]; decide
  obtain ⟨p1, p2, p3, p4, p5, p6, p7⟩ := p
  rcases p7 with ⟨rfl, hd, hks⟩ | ⟨rfl, hd, hnum, hks, h61⟩ | ⟨hd, -, hk2, h61⟩ | ⟨rfl, hd, hk3, h61, hno, -⟩ | ⟨rfl, hd, hk4, h61, hn61, hno, h10, h11, hvv⟩
  · refine Or.inr ⟨by rw [hd]; decide, ?_⟩
    rcases p4.2 with z | ⟨z1, z2, z3⟩
    · exact hlow (by omega)
    · rw [hat (by omega), hks]; exact z3
  · refine Or.inr ⟨by rw [hd]; decide, ?_⟩
    rcases p4.2 with z | ⟨z1, z2, z3⟩
    · exact hlow (by omega)
    · rw [hat (by omega), show L - 2 = st - 1 by omega, z2]; omega
  · refine Or.inr ⟨by rw [hd]; decide, ?_⟩
    rw [hat (by omega)]; exact h61 (L - 2) (by omega) (by omega)
  · refine Or.inr ⟨by rw [hd]; decide, ?_⟩
    rw [hat (by omega)]; exact hno (L - 2) (by omega) (by omega)
  · refine Or.inl ⟨hd, (hat (by omega)).mpr h61, p1, by omega, ?_, fun e he => ?_⟩
    · have := nS_same (T := T) (i := st) (L - st) (fun j a b => p5 j a (by omega))
      rw [show st + (L - st) = L by omega, p4.1] at this
      exact this
    · by_cases y : e = rd
      · rw [y]
        refine ⟨st, by omega, p4, ?_, ?_, hvv⟩
        · rw [dayFrom_eq h (q := L - 2) (by omega) (by omega) h61 (fun j a b => hno j a b), h10]
        · rw [dishFrom_eq h (q := L - 2) (by omega) (by omega) h61 (fun j a b => hno j a b), h11, show L - 2 + 1 = L - 1 by omega, f6_at_nI (by omega) (by omega)]
      · exact p6 e (by omega)
theorem entryCount_eq (h : CD T L) : f3_entryCount T = nI (nS T L + 1) := by
  have hL := h.1
  have e59 : (59 : Int32) = nI 59 := rfl
  have f1 : fuelN (0 : Int32) (nI L) = L := by rw [← nI_0, fuelN_nI (by omega) (by omega)]; rfl
  have key : ∀ n i : Nat, i + n = L → f3_entryCount_L4 T n (nI (nS T i + 1)) (nI i) (fun x => x) = nI (nS T L + 1) := by
    intro n
    induction n with
    | zero => intro i hi; rw [f3_entryCount_L4, show i = L by omega]
    | succ n ih =>
      intro i hi
      rw [f3_entryCount_L4, h.2.1, if_neg (nI_ge (by omega) (by omega)), e59]
      by_cases c : cd T i = 59
      · rw [if_pos ((h.is (by omega) (by omega)).mpr c), nI_1, nI_1, ← nS_t c]
        exact ih (i + 1) (by omega)
      · rw [if_neg (fun z => c ((h.is (by omega) (by omega)).mp z)), nI_1, ← nS_f c]
        exact ih (i + 1) (by omega)
  rw [f3_entryCount, h.2.1, f1]
  exact key L 0 (by omega)
theorem puts_eq {dc gc e d : Nat} (Y : Pic) (s : SR S (M 0) dc gc) (he : e ≤ 12) (hd : d ≤ 27) (hM : M 10 (2 * e) = nI d) : ∃ (t : Int32) (S' Y' M' : Pic), f6_servesIfItCan S Y (nI d) (M 10 (2 * e + 1)) = (t, S', Y') ∧ f7_puts M (nI e) = some (t, M') ∧ SR S' (M' 0) dc gc ∧ ∀ j : Nat, 1 ≤ j → j ≠ 8 → j ≠ 9 → M' j = M j := by
  have h := s.1
  have hdc := h.1
  have e1 : (2 : Int32) * nI e = nI (2 * e) := by rw [show (2 : Int32) = nI 2 from rfl, pk_mul]
  have hp0 : f7_puts M (nI e) = if f7_isDish M (M 10 (2 * e + 1)) = 0 then some (0, M) else ob2 (f7_canServe M (nI d) (M 10 (2 * e + 1))) (fun r8 u9 => if r8 = 0 then some (0, u9) else ob1 (f7_of u9 (M 10 (2 * e + 1)) 0) (fun r13 => ob1 (f7_put u9 (nI d) r13 (M 10 (2 * e + 1))) (fun u15 => some (1, u15)))) := by
    rw [f7_puts, e1, nI_1, ck_nI (by omega) (by omega), ix_nI (by omega), bd_eq, ck_nI (by omega) (by omega), ix_nI (by omega), bd_eq, hM]
  rw [f6_servesIfItCan, hp0]
  rcases dish_cs h (M 10 (2 * e + 1)) with ⟨a, b⟩ | ⟨f, hf, ef, a, b⟩
  · rw [if_pos a, if_pos b]
    exact ⟨0, S, Y, M, rfl, rfl, s, fun _ _ _ _ => rfl⟩
  · rw [if_neg (ne0 a), if_neg (ne0 b), ef, f6_at_nI (by omega) (by omega)]
    obtain ⟨⟨p, hp, h1⟩, -⟩ := s.2.1.1 f hf
    obtain ⟨r, Y1, M1, x1, x2, x3, ho⟩ := canServe_eq Y h s.2.1 s.2.2.1 (show d < 28 by omega) hf hp h1
    have hx : 3 * d + p < 84 := by omega
    rw [h1, bd_eq, x1, bd3_eq, x2, ob2_some]
    by_cases c : r = 0
    · have h2 : Rel S (M1 0) dc gc := x3.rel h
      have o0 : f7_of M1 (nI f) 0 = some (nI p) := by rw [← h1]; exact h2.of (k := 0) hf (by omega)
      rw [if_pos c, if_pos c, if_neg (show ¬ (1 : Int32) = 0 by decide), o0, ob1_some, f7_put_nI hx, ob1_some, f6_cellOf_nI, f6_put_nI hx (by omega), bd_eq]
      refine ⟨1, _, _, _, rfl, rfl, ?_, fun j q1 q2 q3 => ?_⟩
      · rw [pset_same, x3.zero]
        exact put_sr s hx hf (by omega) (ho c)
      · rw [pset_ne (by omega)]; exact x3 j q2 q3
    · rw [if_neg c, if_neg c, if_pos (show (0 : Int32) = 0 from rfl)]
      exact ⟨0, _, _, _, rfl, rfl, by rw [x3.zero]; exact s, fun j q1 q2 q3 => x3 j q2 q3⟩
theorem rd_loop (h : CD T L) {dc gc rd : Nat} (hr : rd ≤ 12) : ∀ (n e fu : Nat) (S Y M : Pic), e + n = rd + 1 → n < fu → SR S (M 0) dc gc → M 11 0 = nI rd → (∀ i : Nat, i ≤ rd → ent T M L i) → ∃ (cnt : Int32) (S' Y' M' : Pic), f6_read_L46 (nI (rd + 1)) n (nI e) 1 (nI e) S Y G Z T (fun x1_46 S_46 Y_46 G_46 Z_46 T_46 => (bd (f3_makeEmpty T_46) (fun u18 => ((0 : Int32), x1_46, S_46, Y_46, G_46, Z_46, u18)))) = (0, cnt, S', Y', G, Z, f3_makeEmpty T) ∧ f7_read_L58 fu (nI e) M (fun x2_58 M_58 => (some (x2_58, M_58))) = some (cnt, M') ∧ SR S' (M' 0) dc gc ∧ ∀ j : Nat, 1 ≤ j → j ≠ 8 → j ≠ 9 → M' j = M j := by
  intro n
  induction n with
  | zero =>
    intro e fu S Y M hi hf s h11 hE
    obtain ⟨f, rfl⟩ : ∃ f, fu = f + 1 := ⟨fu - 1, by omega⟩
    rw [f6_read_L46, f7_read_L58, h11, if_pos (nI_lt (by omega) (by omega)), bd_eq]
    exact ⟨_, S, Y, M, rfl, rfl, s, fun _ _ _ _ => rfl⟩
  | succ n ih =>
    intro e fu S Y M hi hf s h11 hE
    obtain ⟨f, rfl⟩ : ∃ f, fu = f + 1 := ⟨fu - 1, by omega⟩
    obtain ⟨st, hst, hb, hday, hdish, d, hd, hM⟩ := hE e (by omega)
    obtain ⟨t, S1, Y1, M1, x1, x2, x3, x4⟩ := puts_eq Y s (show e ≤ 12 by omega) hd hM
    rw [f6_read_L46, f7_read_L58, h11, if_neg (nI_nlt (show e ≤ rd by omega) (by omega)), if_neg (nI_ge (by omega) (by omega)), if_neg (show ¬ (1 : Int32) = 0 by decide), startOf_eq h (Nat.le_of_lt hst) hb, bd_eq, hday, bd_eq, hdish, bd_eq, hM, x1, bd3_eq, x2, ob2_some]
    have ht : t = 0 ∨ t = 1 := by
      have : f6_servesIfItCan S Y (nI d) (M 10 (2 * e + 1)) = (t, S1, Y1) := x1
      rw [f6_servesIfItCan] at this
      split at this
      · exact Or.inl (congrArg Prod.fst this).symm
      · rw [bd_eq] at this
        obtain ⟨q, eq⟩ : ∃ q, f2_reasonAgainst Y S (nI d) (f6_at 12 (S 1) (M 10 (2 * e + 1))) (M 10 (2 * e + 1)) = q := ⟨_, rfl⟩
        rw [eq] at this
        obtain ⟨q1, q2, q3⟩ := q
        rw [bd3_eq] at this
        split at this
        · rw [bd_eq] at this
          exact Or.inr (congrArg Prod.fst this).symm
        · exact Or.inl (congrArg Prod.fst this).symm
    rcases ht with rfl | rfl
    · rw [if_pos rfl, if_pos rfl]
      refine ⟨nI e, S1, Y1, M1, ?_, rfl, x3, x4⟩
      cases n with
      | zero => rw [f6_read_L46, bd_eq]
      | succ n =>
        rw [f6_read_L46, if_pos (show (0 : Int32) = 0 from rfl), bd_eq]
        split <;> rfl
    · rw [if_neg (show ¬ (1 : Int32) = 0 by decide), if_neg (show ¬ (1 : Int32) = 0 by decide), nI_1]
      obtain ⟨cnt, S', Y', M', y1, y2, y3, y4⟩ := ih (e + 1) f S1 Y1 M1 (by omega) (by omega) x3 (by rw [x4 11 (by omega) (by omega) (by omega)]; exact h11) (fun i hi => by
        have := hE i hi
        unfold ent at this ⊢
        rw [x4 10 (by omega) (by omega) (by omega)]; exact this)
      exact ⟨cnt, S', Y', M', y1, y2, y3, fun j q1 q2 q3 => (y4 j q1 q2 q3).trans (x4 j q1 q2 q3)⟩
theorem st_read (I : INV S G Z N T M) (Y : Pic) : ∃ c r S' Y' G' Z' T' b M', f6_read S Y G Z T = (c, r, S', Y', G', Z', T') ∧ f7_read M = some (b, M') ∧ INV S' G' Z' N T' M' ∧ an [2] c r b M' := by
  obtain ⟨⟨dc, gc, sr⟩, hh, hn, ht⟩ := id I
  obtain ⟨L, h, h5, h6⟩ := tx_cd ht
  have hL := h.1
  obtain ⟨R, M1, z1, z2, z3, z4⟩ := parse_eq h h5 h6
  have I1 : INV S G Z N T M1 := I.fx z3
  have h51 : M1 5 0 = nI L := by rw [z3 5 (by decide) (by decide) (by decide) (by decide)]; exact h5
  have ic : f3_isComplete T = if R = nI L then (if f6_at 60 (T 0) (nI L - 2) = 61 then 1 else 0) else 0 := by rw [f3_isComplete, z1, bd_eq, h.2.1]
  rw [f6_read, f7_read, z2, ob2_some, h51]
  rcases z4 with ⟨rfl, pl, rd, st, p⟩ | ⟨j, hj, rfl⟩
  · rw [if_pos rfl] at ic
    rcases PS_end h p with ⟨q1, q2, q3, q4, q5, q6⟩ | ⟨q1, q2⟩
    · rw [if_pos q2] at ic
      rw [ic, bd_eq, if_neg (show ¬ (1 : Int32) = 0 by decide), if_pos (show nI L = nI L from rfl), if_pos q1]
      obtain ⟨G', Z', M2, y1, y2, y3, y4⟩ := save_eq (S := S) (G := G) (Z := Z) (M := pset M1 7 (fun _ => (0 : Int32))) (dc := dc) (gc := gc) (by rw [pset_ne (by decide), z3 0 (by decide) (by decide) (by decide) (by decide)]; exact sr) (I1.e6 e7).2.1
      have e20 : M2 0 = M 0 := by rw [y4 0 (by decide) (by decide), pset_ne (by decide), z3 0 (by decide) (by decide) (by decide) (by decide)]
      obtain ⟨cnt, S', Y', M', u1, u2, u3, u4⟩ := rd_loop (G := G') (Z := Z') (T := T) h q4 (rd + 1) 0 20 S Y (pset M2 5 (fun _ => (0 : Int32))) (by omega) (by omega) (by rw [pset_ne (by decide), e20]; exact sr) (by rw [pset_ne (by decide), y4 11 (by decide) (by decide), pset_ne (by decide)]; exact q3) (fun i hi => by
        have := q6 i hi
        unfold ent at this ⊢
        rw [pset_ne (by decide), y4 10 (by decide) (by decide), pset_ne (by decide)]; exact this)
      have f1 : fuelN (0 : Int32) (nI (rd + 1)) = rd + 1 := by rw [← nI_0, fuelN_nI (by omega) (by omega)]; rfl
      rw [nI_0] at u1 u2
      rw [y1, bd2_eq, y2, ob1_some, entryCount_eq h, bd_eq, q5, f1, u1, u2]
      have ek : ∀ j : Nat, 1 ≤ j → j ≤ 7 → j ≠ 5 → M' j = M2 j := fun j a b c => by rw [u4 j a (by omega) (by omega), pset_ne c]
      refine ⟨0, cnt, S', Y', G', Z', _, cnt, M', rfl, rfl, ⟨⟨dc, gc, u3⟩, hr_same y3 (ek 1 (by omega) (by omega) (by omega)) (ek 2 (by omega) (by omega) (by omega)), ?_, 0, by omega, ?_, ?_, fun i hi => by omega⟩, Or.inl ⟨rfl, ?_, rfl⟩⟩
      · unfold SN at hn ⊢
        rw [ek 3 (by omega) (by omega) (by omega), ek 4 (by omega) (by omega) (by omega), y4 3 (by decide) (by decide), y4 4 (by decide) (by decide), pset_ne (by decide), pset_ne (by decide), z3 3 (by decide) (by decide) (by decide) (by decide), z3 4 (by decide) (by decide) (by decide) (by decide)]
        exact hn
      · unfold f3_makeEmpty; rw [pset_same]; rfl
      · rw [u4 5 (by omega) (by omega) (by omega), pset_same]; rfl
      · rw [ek 7 (by omega) (by omega) (by omega), y4 7 (by decide) (by decide), p7]
    · rw [if_neg q2] at ic
      rw [ic, bd_eq, if_pos (show (0 : Int32) = 0 from rfl), if_pos (show nI L = nI L from rfl), if_neg q1]
      exact ⟨2, 0, S, Y, G, Z, T, 0, _, rfl, rfl, I1.e6 e7, an.th 0 rfl p7⟩
  · have hne : ¬ nI j = nI L := fun z => by have := (nI_eq (by omega) (by omega)).mp z; omega
    rw [if_neg hne] at ic
    rw [ic, bd_eq, if_pos (show (0 : Int32) = 0 from rfl), if_neg hne]
    exact ⟨2, 0, S, Y, G, Z, T, 0, _, rfl, rfl, I1.e6 e7, an.th 0 rfl p7⟩
end RD
