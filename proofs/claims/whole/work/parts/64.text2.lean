theorem sub48 {c : Nat} (h1 : 33 ≤ c) (h2 : c ≤ 126) : f7_within (nI c - 48) 0 9 = (if 48 ≤ c ∧ c ≤ 57 then 1 else 0) ∧ (48 ≤ c → nI c - 48 = nI (c - 48)) := by
  refine ⟨?_, fun h => pk_sub (b := 48) h⟩
  unfold f7_within
  rcases Nat.lt_or_ge c 48 with q | q
  · rw [if_pos (show nI c - 48 < 0 from pk_sneg (b := 48) (by omega) q), if_neg (by omega)]
  · rw [show nI c - 48 = nI (c - 48) from pk_sub (b := 48) q, if_neg (nI_pos (by omega))]
    rcases Nat.lt_or_ge 57 c with y | y
    · rw [if_pos (show (9 : Int32) < nI (c - 48) from nI_lt (a := 9) (by omega) (by omega)), if_neg (by omega)]
    · rw [if_neg (show ¬ (9 : Int32) < nI (c - 48) from nI_nlt (a := 9) (by omega) (by omega)), if_pos ⟨q, y⟩]
theorem win {c a b : Nat} (hc : c < 2 ^ 31) (ha : a < 2 ^ 31) (hb : b < 2 ^ 31) : f6_isWithin (nI c) (nI a) (nI b) = if a ≤ c ∧ c ≤ b then 1 else 0 := by
  unfold f6_isWithin
  rcases Nat.lt_or_ge c a with q | q
  · rw [if_pos (nI_lt q ha), if_neg (by omega)]
  · rw [if_neg (nI_nlt q hc)]
    rcases Nat.lt_or_ge b c with y | y
    · rw [if_pos (nI_lt y hc), if_neg (by omega)]
    · rw [if_neg (nI_nlt y hb), if_pos ⟨q, y⟩]
theorem w09 {c : Nat} (hc : c < 2 ^ 31) : f6_isWithin (nI c) 48 57 = if 48 ≤ c ∧ c ≤ 57 then 1 else 0 := win (a := 48) (b := 57) hc (by omega) (by omega)
theorem w07 {c : Nat} (hc : c < 2 ^ 31) : f6_isWithin (nI c) 48 55 = if 48 ≤ c ∧ c ≤ 55 then 1 else 0 := win (a := 48) (b := 55) hc (by omega) (by omega)
theorem wal {c : Nat} (hc : c < 2 ^ 31) : f6_isWithin (nI c) 97 108 = if 97 ≤ c ∧ c ≤ 108 then 1 else 0 := win (a := 97) (b := 108) hc (by omega) (by omega)
theorem isDay_nI {c : Nat} (hc : c < 2 ^ 31) : f7_isDay (nI c) = if c ≤ 27 then 1 else 0 := by
  have h : f7_isDay (nI c) = f6_isWithin (nI c) (nI 0) (nI 27) := rfl
  rw [h, win hc (by omega) (by omega)]
  by_cases q : c ≤ 27
  · rw [if_pos q, if_pos ⟨Nat.zero_le _, q⟩]
  · rw [if_neg q, if_neg (fun z => q z.2)]
section TK
variable {T M : Pic} {L k pl rd st : Nat}
theorem tk_step (h : CD T L) (hk : k < L) (p : PS T M L k pl rd st) : ∃ (t : Int32) (M' : Pic), f7_takes M (T 0 k) = some (t, M') ∧ Fx M M' ∧ ((t = 0 ∧ f3_placeAfter (nI pl) (T 0 k) = -1) ∨ (t = 1 ∧ ∃ pl' rd' st' : Nat, pl' ≤ 6 ∧ f3_placeAfter (nI pl) (T 0 k) = nI pl' ∧ PS T M' L (k + 1) pl' rd' st')) := by
  obtain ⟨p1, p2, p3, p4, p5, p6, p7⟩ := p
  obtain ⟨hc, hc1, hc2⟩ := h.2.2 k hk
  have hL := h.1
  have e2rd : (2 : Int32) * M 11 0 = nI (2 * rd) := by rw [p1, show (2 : Int32) = nI 2 from rfl, pk_mul]
  have e2rd1 : (2 : Int32) * M 11 0 + 1 = nI (2 * rd + 1) := by rw [e2rd, nI_1]
  have eqc : ∀ n : Nat, n < 2 ^ 31 → (nI (cd T k) = nI n ↔ cd T k = n) := fun n hn => nI_eq (by omega) hn
  rw [hc]
  rcases p7 with ⟨rfl, hd, hks⟩ | ⟨rfl, hd, hnum, hks, h61⟩ | ⟨hd, ⟨v, hnum, hv, hdv⟩, hk2, h61⟩ | ⟨rfl, hd, hk3, h61, hno, h10, hvv⟩ | ⟨rfl, hd, hk4, h61, hn61, hno, h10, h11, hvv⟩
  · -- at an entry
    rw [f7_takes, hd, if_pos rfl, pa0]
    by_cases c : cd T k = 100
    · have e : nI (cd T k) = 100 := (eqc 100 (by omega)).mpr c
      rw [if_pos e, if_pos e]
      refine ⟨1, _, rfl, (Fx.r.p (by omega)).p (by omega), Or.inr ⟨rfl, 1, rd, st, by omega, rfl, ?_, by omega, p3, p4, fun j a b => ?_, fun e he => ent_keep he (fun i _ => by rw [pset_ne (by decide), pset_ne (by decide)]) (p6 e he), Or.inr (Or.inl ⟨rfl, ?_, ?_, by omega, ?_⟩)⟩⟩
      · rw [pset_ne (by decide), pset_ne (by decide)]; exact p1
      · rw [show j = k by omega]; omega
      · rw [pset_same]
      · rw [pset_ne (by decide), pset_same]
      · rw [← hks]; omega
    · have e : ¬ nI (cd T k) = 100 := fun z => c ((eqc 100 (by omega)).mp z)
      rw [if_neg e, if_neg e]
      exact ⟨0, _, rfl, (Fx.r.p (by omega)).p (by omega), Or.inl ⟨rfl, rfl⟩⟩
  · -- at the day
    have two : f7_takes M (nI (cd T k)) = ob2 (f7_takesDigit M (nI (cd T k) - 48)) (fun r u => some (r, u)) := by
      rw [f7_takes, hd, if_neg (by decide), if_pos (show (1 : Int32) = 1 from rfl), hnum, if_pos (show (-1 : Int32) = -1 from rfl)]
      split <;> rfl
    rw [two, digit_eq (nI (cd T k) - 48) (by rw [hnum, if_pos rfl]), hnum, (sub48 hc1 hc2).1, pa1]
    unfold f3_placeAfterFirstDigit
    rw [w09 (c := cd T k) (by omega)]
    by_cases c : 48 ≤ cd T k ∧ cd T k ≤ 57
    · rw [if_pos c, if_neg (show ¬ (1 : Int32) = 0 by decide), if_neg (show ¬ (-1 : Int32) = 0 by decide), (sub48 hc1 hc2).2 c.1, isDay_nI (by omega), if_pos (show cd T k - 48 ≤ 27 by omega), if_neg (show ¬ (1 : Int32) = 0 by decide), ob2_some, if_neg (show ¬ (1 : Int32) = 0 by decide)]
      have hdv1 : dv T st (k + 1 - st - 1) = nI (cd T k - 48) := by
        rw [show k + 1 - st - 1 = 1 by omega, dv, dv, show st + 1 + 0 = k by omega, hc, Int32.zero_mul, Int32.zero_add]
        exact (sub48 hc1 hc2).2 c.1
      have fin : ∀ pl' : Nat, pl' ≤ 6 → ((pl' = 2 ∧ cd T k - 48 = 1) ∨ (pl' = 3 ∧ cd T k - 48 = 2) ∨ (pl' = 4 ∧ (cd T k - 48 = 0 ∨ (3 ≤ cd T k - 48 ∧ cd T k - 48 ≤ 27)))) → PS T (pset M 12 (fun _ => nI (cd T k - 48))) L (k + 1) pl' rd st := fun pl' hp6 hpl => by
        refine ⟨?_, by omega, p3, p4, fun j a b => ?_, fun e he => ent_keep he (fun i _ => by rw [pset_ne (by decide)]) (p6 e he), Or.inr (Or.inr (Or.inl ⟨?_, ⟨_, by rw [pset_same], hpl, hdv1⟩, by omega, fun j a b => ?_⟩))⟩
        · rw [pset_ne (by decide)]; exact p1
        · by_cases y : j = k
          · rw [y]; omega
          · exact p5 j a (by omega)
        · rw [pset_ne (by decide)]; exact hd
        · by_cases y : j = k
          · rw [y]; omega
          · rw [show j = st by omega]; exact h61
      by_cases c1 : cd T k = 49
      · rw [if_pos (show nI (cd T k) = 49 from (eqc 49 (by omega)).mpr c1)]
        exact ⟨1, _, rfl, Fx.r.p (by omega), Or.inr ⟨rfl, 2, rd, st, by omega, rfl, fin 2 (by omega) (Or.inl ⟨rfl, by omega⟩)⟩⟩
      · rw [if_neg (show ¬ nI (cd T k) = 49 from fun z => c1 ((eqc 49 (by omega)).mp z))]
        by_cases c2 : cd T k = 50
        · rw [if_pos (show nI (cd T k) = 50 from (eqc 50 (by omega)).mpr c2)]
          exact ⟨1, _, rfl, Fx.r.p (by omega), Or.inr ⟨rfl, 3, rd, st, by omega, rfl, fin 3 (by omega) (Or.inr (Or.inl ⟨rfl, by omega⟩))⟩⟩
        · rw [if_neg (show ¬ nI (cd T k) = 50 from fun z => c2 ((eqc 50 (by omega)).mp z))]
          exact ⟨1, _, rfl, Fx.r.p (by omega), Or.inr ⟨rfl, 4, rd, st, by omega, rfl, fin 4 (by omega) (Or.inr (Or.inr ⟨rfl, by omega⟩))⟩⟩
    · rw [if_neg c, if_pos (show (0 : Int32) = 0 from rfl), ob2_some, if_neg (show ¬ nI (cd T k) = 49 from fun z => c (by have := (eqc 49 (by omega)).mp z; omega)), if_neg (show ¬ nI (cd T k) = 50 from fun z => c (by have := (eqc 50 (by omega)).mp z; omega)), if_pos (show (0 : Int32) = 0 from rfl)]
      exact ⟨0, _, rfl, Fx.r.p (by omega), Or.inl ⟨rfl, rfl⟩⟩
  · -- behind a number
    have hv27 : v ≤ 27 := by omega
    have hpl : pl = 2 ∨ pl = 3 ∨ pl = 4 := by omega
    have hnn : ¬ nI v = -1 := nI_ne_neg (by omega)
    by_cases c : cd T k = 61
    · have e : nI (cd T k) = 61 := (eqc 61 (by omega)).mpr c
      have hpa : f3_placeAfter (nI pl) (nI (cd T k)) = nI 5 := by
        rw [e]
        rcases hpl with rfl | rfl | rfl <;> rfl
      rw [hpa, f7_takes, hd, if_neg (by decide), if_pos (show (1 : Int32) = 1 from rfl), if_pos e, hnum, if_neg hnn, e2rd, ck_nI (by omega) (by omega), ix_nI (by omega), bd_eq]
      refine ⟨1, _, rfl, (Fx.r.p (by omega)).p (by omega), Or.inr ⟨rfl, 5, rd, st, by omega, rfl, ?_, by omega, p3, p4, fun j a b => ?_, fun e he => ent_keep he (fun i hi => by rw [pset_ne (by decide), pset_same, upd_ne (by omega)]) (p6 e he), Or.inr (Or.inr (Or.inr (Or.inl ⟨rfl, ?_, by omega, ?_, fun j a b => ?_, ?_, v, hv27, ?_⟩)))⟩⟩
      · rw [pset_ne (by decide), pset_ne (by decide)]; exact p1
      · by_cases y : j = k
        · rw [y]; omega
        · exact p5 j a (by omega)
      · rw [pset_same]
      · rw [Nat.add_sub_cancel]; exact c
      · exact h61 j a (by omega)
      · rw [pset_ne (by decide), pset_same, upd_same, Nat.add_sub_cancel, hdv]
      · rw [pset_ne (by decide), pset_same, upd_same]
    · have e : ¬ nI (cd T k) = 61 := fun z => c ((eqc 61 (by omega)).mp z)
      have hday : f3_placeAfterDay (nI (cd T k)) = -1 := by unfold f3_placeAfterDay; rw [if_neg e]
      have two : f7_takes M (nI (cd T k)) = ob2 (f7_takesDigit M (nI (cd T k) - 48)) (fun r u => some (r, u)) := by
        rw [f7_takes, hd, if_neg (by decide), if_pos (show (1 : Int32) = 1 from rfl), if_neg e]
      rw [two, digit_eq (10 * M 12 0 + (nI (cd T k) - 48)) (by rw [hnum, if_neg hnn]), hnum, (sub48 hc1 hc2).1]
      by_cases c2 : 48 ≤ cd T k ∧ cd T k ≤ 57
      · have hv' : (10 : Int32) * nI v + (nI (cd T k) - 48) = nI (10 * v + (cd T k - 48)) := by rw [(sub48 hc1 hc2).2 c2.1, show (10 : Int32) = nI 10 from rfl, pk_mul, nI_add]
        rw [if_pos c2, if_neg (show ¬ (1 : Int32) = 0 by decide), hv', isDay_nI (by omega)]
        by_cases c3 : v = 0
        · rw [if_pos (show nI v = 0 by rw [c3]; rfl), ob2_some]
          refine ⟨0, _, rfl, Fx.r.p (by omega), Or.inl ⟨rfl, ?_⟩⟩
          rw [show pl = 4 by omega, pa4]; exact hday
        · rw [if_neg (nI_ne0 (by omega) (by omega))]
          by_cases c4 : 10 * v + (cd T k - 48) ≤ 27
          · rw [if_pos c4, if_neg (show ¬ (1 : Int32) = 0 by decide), ob2_some]
            have hpa : f3_placeAfter (nI pl) (nI (cd T k)) = nI 4 := by
              rcases hpl with rfl | rfl | rfl
              · rw [pa2, w09 (c := cd T k) (by omega), if_pos c2, if_neg (show ¬ (1 : Int32) = 0 by decide)]; rfl
              · rw [pa3, w07 (c := cd T k) (by omega), if_pos (show 48 ≤ cd T k ∧ cd T k ≤ 55 by omega), if_neg (show ¬ (1 : Int32) = 0 by decide)]; rfl
              · omega
            refine ⟨1, _, rfl, Fx.r.p (by omega), Or.inr ⟨rfl, 4, rd, st, by omega, hpa, ?_, by omega, p3, p4, fun j a b => ?_, fun e he => ent_keep he (fun i _ => by rw [pset_ne (by decide)]) (p6 e he), Or.inr (Or.inr (Or.inl ⟨?_, ⟨10 * v + (cd T k - 48), by rw [pset_same], Or.inr (Or.inr ⟨rfl, by omega⟩), ?_⟩, by omega, fun j a b => ?_⟩))⟩⟩
            · rw [pset_ne (by decide)]; exact p1
            · by_cases y : j = k
              · rw [y]; omega
              · exact p5 j a (by omega)
            · rw [pset_ne (by decide)]; exact hd
            · obtain ⟨m, hm⟩ : ∃ m : Nat, k - st - 1 = m := ⟨_, rfl⟩
              rw [show k + 1 - st - 1 = m + 1 by omega, dv, ← hm, hdv, show st + 1 + (k - st - 1) = k by omega, hc, show (10 : Int32) = nI 10 from rfl, pk_mul, nI_add]
              have := pk_sub (a := v * 10 + cd T k) (b := 48) (by omega)
              rw [show v * 10 + cd T k - 48 = 10 * v + (cd T k - 48) by omega] at this
              exact this
            · by_cases y : j = k
              · rw [y]; exact c
              · exact h61 j a (by omega)
          · rw [if_neg c4, if_pos (show (0 : Int32) = 0 from rfl), ob2_some]
            refine ⟨0, _, rfl, Fx.r.p (by omega), Or.inl ⟨rfl, ?_⟩⟩
            rcases hpl with rfl | rfl | rfl
            · omega
            · rw [pa3, w07 (c := cd T k) (by omega), if_neg (show ¬ (48 ≤ cd T k ∧ cd T k ≤ 55) by omega), if_pos rfl]; exact hday
            · rw [pa4]; exact hday
      · rw [if_neg c2, if_pos (show (0 : Int32) = 0 from rfl), ob2_some]
        refine ⟨0, _, rfl, Fx.r.p (by omega), Or.inl ⟨rfl, ?_⟩⟩
        rcases hpl with rfl | rfl | rfl
        · rw [pa2, w09 (c := cd T k) (by omega), if_neg c2, if_pos rfl]; exact hday
        · rw [pa3, w07 (c := cd T k) (by omega), if_neg (show ¬ (48 ≤ cd T k ∧ cd T k ≤ 55) by omega), if_pos rfl]; exact hday
        · rw [pa4]; exact hday
  · -- at the dish
    have hw : f7_within (nI (cd T k)) 97 108 = if 97 ≤ cd T k ∧ cd T k ≤ 108 then 1 else 0 := wal (c := cd T k) (by omega)
    have hw6 : f6_isWithin (nI (cd T k)) 97 108 = if 97 ≤ cd T k ∧ cd T k ≤ 108 then 1 else 0 := wal (c := cd T k) (by omega)
    rw [f7_takes, hd, if_neg (by decide), if_neg (by decide), if_pos (show (2 : Int32) = 2 from rfl), e2rd1, ck_nI (by omega) (by omega), ix_nI (by omega), bd_eq, hw, pa5, hw6]
    by_cases c : 97 ≤ cd T k ∧ cd T k ≤ 108
    · rw [if_pos c, if_neg (show ¬ (1 : Int32) = 0 by decide)]
      refine ⟨1, _, rfl, (Fx.r.p (by omega)).p (by omega), Or.inr ⟨rfl, 6, rd, st, by omega, rfl, ?_, by omega, p3, p4, fun j a b => ?_, fun e he => ent_keep he (fun i hi => by rw [pset_ne (by decide), pset_same, upd_ne (by omega)]) (p6 e he), Or.inr (Or.inr (Or.inr (Or.inr ⟨rfl, ?_, by omega, ?_, ?_, fun j a b => ?_, ?_, ?_, ?_⟩)))⟩⟩
      · rw [pset_ne (by decide), pset_ne (by decide)]; exact p1
      · by_cases y : j = k
        · rw [y]; omega
        · exact p5 j a (by omega)
      · rw [pset_same]
      · rw [show k + 1 - 2 = k - 1 by omega]; exact h61
      · rw [Nat.add_sub_cancel]; omega
      · exact hno j a (by omega)
      · rw [pset_ne (by decide), pset_same, upd_ne (by omega), h10, show k + 1 - 2 - st - 1 = k - 1 - st - 1 by omega]
      · rw [pset_ne (by decide), pset_same, upd_same, Nat.add_sub_cancel, hc]
      · rw [pset_ne (by decide), pset_same, upd_ne (by omega)]; exact hvv
    · rw [if_neg c, if_pos (show (0 : Int32) = 0 from rfl)]
      exact ⟨0, _, rfl, (Fx.r.p (by omega)).p (by omega), Or.inl ⟨rfl, rfl⟩⟩
  · -- behind the dish
    rw [f7_takes, hd, if_neg (by decide), if_neg (by decide), if_neg (by decide), if_pos (show (3 : Int32) = 3 from rfl), bd_eq, pa6]
    by_cases c : cd T k = 59
    · have e : nI (cd T k) = 59 := (eqc 59 (by omega)).mpr c
      rw [if_pos e, if_pos e]
      have hnk : nS T k = rd := by
        have := nS_same (T := T) (i := st) (k - st) (fun j a b => p5 j a (by omega))
        rw [show st + (k - st) = k by omega, p4.1] at this
        exact this
      refine ⟨1, _, rfl, (Fx.r.p (by omega)).p (by omega), Or.inr ⟨rfl, 0, rd + 1, k + 1, by omega, rfl, ?_, Nat.le_refl _, by omega, ⟨?_, Or.inr ⟨by omega, ?_, ?_⟩⟩, fun j a b => by omega, fun e he => ?_, Or.inl ⟨rfl, ?_, rfl⟩⟩⟩
      · rw [pset_ne (by decide), pset_same, p1, nI_1]
      · rw [nS_t c, hnk]
      · rw [Nat.add_sub_cancel]; exact c
      · rw [show k + 1 - 2 = k - 1 by omega]; exact hn61
      · by_cases y : e = rd
        · rw [y]
          refine ⟨st, by omega, p4, ?_, ?_, by rw [pset_ne (by decide), pset_ne (by decide)]; exact hvv⟩
          · rw [pset_ne (by decide), pset_ne (by decide), dayFrom_eq h (q := k - 2) (by omega) (by omega) h61 (fun j a b => hno j a b), h10]
          · rw [pset_ne (by decide), pset_ne (by decide), dishFrom_eq h (q := k - 2) (by omega) (by omega) h61 (fun j a b => hno j a b), h11, show k - 2 + 1 = k - 1 by omega, f6_at_nI (by omega) (by omega)]
        · exact ent_keep (rd := rd) (by omega) (fun i _ => by rw [pset_ne (by decide), pset_ne (by decide)]) (p6 e (by omega))
      · rw [pset_same]
    · have e : ¬ nI (cd T k) = 59 := fun z => c ((eqc 59 (by omega)).mp z)
      rw [if_neg e, if_neg e]
      exact ⟨0, _, rfl, (Fx.r.p (by omega)).p (by omega), Or.inl ⟨rfl, rfl⟩⟩
end TK
