/-- two pictures of one state -/
def Ag (S S' : Pic) : Prop := S' 0 0 = S 0 0 ∧ S' 7 0 = S 7 0 ∧ (∀ k d : Nat, 1 ≤ k → k ≤ 6 → d < 12 → S' k d = S k d) ∧ (∀ k g : Nat, 8 ≤ k → k ≤ 9 → g < 6 → S' k g = S k g) ∧ (∀ k : Nat, k < 3 → S' 10 k = S 10 k) ∧ ∀ c : Nat, c < 84 → S' 11 c = S 11 c
theorem ag_symm {S S' : Pic} (h : Ag S S') : Ag S' S := ⟨h.1.symm, h.2.1.symm, fun k d a b c => (h.2.2.1 k d a b c).symm, fun k g a b c => (h.2.2.2.1 k g a b c).symm, fun k a => (h.2.2.2.2.1 k a).symm, fun c a => (h.2.2.2.2.2 c a).symm⟩
theorem at_ag {n : Nat} {f g : Nat → Int32} (hn : n < 2 ^ 31) (h : ∀ d : Nat, d < n → g d = f d) (x : Int32) : f6_at n g x = f6_at n f x := by
  rcases pk_ix x hn with q | q | ⟨j, hj, q⟩
  · unfold f6_at; rw [if_pos q, if_pos q]
  · unfold f6_at
    by_cases z : x < 0
    · rw [if_pos z, if_pos z]
    · rw [if_neg z, if_neg z, if_pos q, if_pos q]
  · rw [q, f6_at_nI hj hn, f6_at_nI hj hn, h j hj]
/-- two pictures of one plan, with what it leaves -/
def Ap (S S' : Pic) : Prop := ∀ c : Nat, c < 84 → S' 11 c = S 11 c ∧ f6_at 12 (S' 5) (S' 11 c) = f6_at 12 (S 5) (S 11 c) ∧ lastD S' c = lastD S c
section AP
variable {S S' : Pic}
theorem ap_nx (h : Ap S S') {f : Nat → Int32} {e k : Nat} (hk : k < 84) : nx S' f e k = nx S f e k := by
  have hc : ∀ c : Nat, c < 84 → (cand S' f e (k / 3) c ↔ cand S f e (k / 3) c) := fun c hc => by
    unfold cand
    rw [(h c hc).2.1, (h c hc).2.2]
  have hb : best S f e (k / 3) (3 * (k / 3 - 6)) (3 * (k / 3)) (nx S' f e k) := by
    rcases nx_b (S := S') (fnd := f) (e := e) hk with ⟨a, b⟩ | ⟨b, a1, a2, a3, a4, a5⟩
    · exact Or.inl ⟨a, fun c x y z => b c x y ((hc c (by omega)).mpr z)⟩
    · refine Or.inr ⟨b, a1, a2, a3, (hc b (by omega)).mp a4, fun c x y z => ?_⟩
      have := a5 c x y ((hc c (by omega)).mpr z)
      unfold lexle at this ⊢
      rw [(h b (by omega)).2.2, (h c (by omega)).2.2] at this
      exact this
  exact best_uniq (fun c _ _ => Iff.rfl) hb (nx_b hk)
theorem ap_Pf (h : Ap S S') {e : Nat} : ∀ k : Nat, k ≤ 84 → Pf S' e k = Pf S e k := by
  intro k
  induction k with
  | zero => intro _; rfl
  | succ k ih =>
    intro hk
    rw [Pf, Pf, ih (by omega), (h k (by omega)).1, ap_nx h (by omega)]
theorem ap_snd (h : Ap S S') {e : Nat} (g : snd S e) : snd S' e := by
  intro k hk hs
  rw [ap_Pf h k (by omega), ap_nx h hk]
  exact g k hk (by rw [← (h k hk).1]; exact hs)
theorem ag_ap (h : Ag S S') : Ap S S' := by
  intro c hc
  unfold lastD
  rw [h.2.2.2.2.2 c hc, at_ag (by omega) (fun d hd => h.2.2.1 5 d (by omega) (by omega) hd), at_ag (by omega) (fun d hd => h.2.2.1 6 d (by omega) (by omega) hd)]
  exact ⟨rfl, rfl, rfl⟩
theorem ag_gd (h : Ag S S') {dc : Nat} (hdc : dc ≤ 12) (hz : S 0 0 = nI dc) (g : gd S dc) : gd S' dc := by
  intro e he hl
  have hz' : S' 0 0 = nI dc := h.1.trans hz
  refine ap_snd (ag_ap h) (g e he ?_)
  obtain ⟨d, hd, z⟩ := (lo_iff hdc hz').mp hl
  exact (lo_iff hdc hz).mpr ⟨d, hd, by rw [← h.2.2.1 5 d (by omega) (by omega) (by omega)]; exact z⟩
theorem ag_rel (h : Ag S S') {z : Nat → Int32} {dc gc : Nat} (r : Rel S z dc gc) : Rel S' z dc gc := by
  obtain ⟨h1, h2, h3, h4, h5, h6, h7, h8, h9, h10⟩ := r
  exact ⟨h1, h2, h.1.trans h3, h.2.1.trans h4, h5, h6, fun d k hd hk => (h7 d k hd hk).trans (h.2.2.1 (1 + k) d (by omega) (by omega) (by omega)).symm, fun g hg => ⟨((h8 g hg).1).trans (h.2.2.2.1 8 g (by omega) (by omega) (by omega)).symm, ((h8 g hg).2).trans (h.2.2.2.1 9 g (by omega) (by omega) (by omega)).symm⟩, fun k hk => (h9 k hk).trans (h.2.2.2.2.1 k hk).symm, fun c hc => (h10 c hc).trans (h.2.2.2.2.2 c hc).symm⟩
theorem ag_wf (h : Ag S S') {dc : Nat} (hdc : dc ≤ 12) (w : Wf S dc) : Wf S' dc := by
  refine ⟨fun d hd => ?_, fun c hc => ?_, ?_⟩
  · rw [h.2.2.1 1 d (by omega) (by omega) (by omega), h.2.2.1 5 d (by omega) (by omega) (by omega), h.2.2.1 6 d (by omega) (by omega) (by omega)]
    exact w.1 d hd
  · rw [h.2.2.2.2.2 c hc]
    rcases w.2.1 c hc with q | ⟨d, hd, q, q2⟩
    · exact Or.inl q
    · exact Or.inr ⟨d, hd, q, by rw [h.2.2.1 1 d (by omega) (by omega) (by omega)]; exact q2⟩
  · rw [h.2.2.2.2.1 1 (by omega)]
    exact w.2.2
end AP
/-- what else holds of every state -/
def Bx (S : Pic) (dc : Nat) : Prop := (∀ d : Nat, d < dc → S 5 d = -1 → S 6 d = 0) ∧ (∀ d : Nat, d < dc → ∃ a : Nat, a ≤ 30 ∧ S 2 d = nI a) ∧ (∃ b : Nat, b ≤ 999 ∧ S 10 2 = nI b) ∧ f5_isAboveBudget S = 0
theorem above_rel {S S' : Pic} {z : Nat → Int32} {dc gc : Nat} (r : Rel S z dc gc) (w : Wf S dc) (r' : Rel S' z dc gc) (w' : Wf S' dc) : f5_isAboveBudget S' = f5_isAboveBudget S := by
  have e : f6_at 3 (S 10) 2 = f6_at 3 (S' 10) 2 := by
    have a : f6_at 3 (S 10) 2 = S 10 2 := f6_at_nI (n := 3) (j := 2) (f := S 10) (by omega) (by omega)
    have b : f6_at 3 (S' 10) 2 = S' 10 2 := f6_at_nI (n := 3) (j := 2) (f := S' 10) (by omega) (by omega)
    rw [a, b, ← r.2.2.2.2.2.2.2.2.1 2 (by omega), ← r'.2.2.2.2.2.2.2.2.1 2 (by omega)]
  have h1 := isDear_eq (M := fun _ => z) r w
  have h2 := isDear_eq (M := fun _ => z) r' w'
  rw [e, h2] at h1
  exact Option.some.inj h1
/-- a state and a row that tell the same, and are sound -/
def SR (S : Pic) (z : Nat → Int32) (dc gc : Nat) : Prop := Rel S z dc gc ∧ Wf S dc ∧ gd S dc ∧ Bx S dc
theorem ag_sr {S S' : Pic} (h : Ag S S') {z : Nat → Int32} {dc gc : Nat} (r : SR S z dc gc) : SR S' z dc gc := by
  obtain ⟨h1, h2, h3, b1, b2, b3, b4⟩ := r
  have hdc := h1.1
  refine ⟨ag_rel h h1, ag_wf h hdc h2, ag_gd h hdc h1.2.2.1 h3, fun d hd z => ?_, fun d hd => ?_, ?_, ?_⟩
  · rw [h.2.2.1 5 d (by omega) (by omega) (by omega)] at z
    rw [h.2.2.1 6 d (by omega) (by omega) (by omega)]
    exact b1 d hd z
  · rw [h.2.2.1 2 d (by omega) (by omega) (by omega)]
    exact b2 d hd
  · rw [h.2.2.2.2.1 2 (by omega)]
    exact b3
  · rw [above_rel h1 h2 (ag_rel h h1) (ag_wf h hdc h2)]
    exact b4
theorem rel_row {S : Pic} {z z' : Nat → Int32} {dc gc : Nat} (r : Rel S z dc gc) (h : ∀ k : Nat, k < 173 → z' k = z k) : Rel S z' dc gc := by
  obtain ⟨h1, h2, h3, h4, h5, h6, h7, h8, h9, h10⟩ := r
  exact ⟨h1, h2, h3, h4, (h 3 (by omega)).trans h5, (h 4 (by omega)).trans h6, fun d k hd hk => (h _ (by omega)).trans (h7 d k hd hk), fun g hg => ⟨(h _ (by omega)).trans (h8 g hg).1, (h _ (by omega)).trans (h8 g hg).2⟩, fun k hk => (h _ (by omega)).trans (h9 k hk), fun c hc => (h _ (by omega)).trans (h10 c hc)⟩
theorem sr_row {S : Pic} {z z' : Nat → Int32} {dc gc : Nat} (r : SR S z dc gc) (h : ∀ k : Nat, k < 173 → z' k = z k) : SR S z' dc gc := ⟨rel_row r.1 h, r.2⟩
theorem copyRow_in {n : Nat} {f g : Nat → Int32} {d : Nat} (hn : n < 2 ^ 31) (hd : d < n) : f6_copyRow n n f g d = f d := by
  unfold f6_copyRow
  simp only [bd]
  rw [if_neg (Int32.lt_irrefl (a := nI n)), ix_nI hn]
  show va_cpy f g 0 0 n d = f d
  exact sb_cpy0 hd
theorem copy_ag (S S1 : Pic) : Ag S1 (f5_copyFrom S S1) := by
  refine ⟨rfl, rfl, fun k d a b c => ?_, fun k g a b c => ?_, fun k a => ?_, fun c a => ?_⟩
  · have : k = 1 ∨ k = 2 ∨ k = 3 ∨ k = 4 ∨ k = 5 ∨ k = 6 := by omega
    rcases this with rfl | rfl | rfl | rfl | rfl | rfl
    · exact copyRow_in (g := S 1) (by omega) c
    · exact copyRow_in (g := S 2) (by omega) c
    · exact copyRow_in (g := S 3) (by omega) c
    · exact copyRow_in (g := S 4) (by omega) c
    · exact copyRow_in (g := S 5) (by omega) c
    · exact copyRow_in (g := S 6) (by omega) c
  · have : k = 8 ∨ k = 9 := by omega
    rcases this with rfl | rfl
    · exact copyRow_in (g := S 8) (by omega) c
    · exact copyRow_in (g := S 9) (by omega) c
  · exact copyRow_in (g := S 10) (by omega) a
  · exact copyRow_in (g := S 11) (by omega) a
/-- the saved states, the oldest first -/
def HR (G : Pic) (Z : Nat → Pic) (M : Pic) : Prop := ∃ o n : Nat, o < 6 ∧ n ≤ 6 ∧ G 1 0 = nI o ∧ G 2 0 = nI n ∧ M 1 0 = nI n ∧ ∀ r : Nat, r < n → ∃ dc gc : Nat, SR (Z ((o + r) % 6)) (fun k => M 2 (173 * r + k)) dc gc
theorem hr_same {G : Pic} {Z : Nat → Pic} {M M' : Pic} (h : HR G Z M) (h1 : M' 1 = M 1) (h2 : M' 2 = M 2) : HR G Z M' := by
  unfold HR at h ⊢
  rw [h1, h2]; exact h
theorem save_row {s : Nat} (hs : s ≤ 5) : ∀ (n i : Nat) (M : Pic) (k : Pic → Option Pic), i + n = 173 → M 1 0 = nI s → ∃ M' : Pic, f7_save_L54 n (nI i) M k = k M' ∧ (∀ j : Nat, j ≠ 2 → M' j = M j) ∧ (∀ q : Nat, 173 * s + i ≤ q → q < 173 * s + 173 → M' 2 q = M 0 (q - 173 * s)) ∧ (∀ q : Nat, (q < 173 * s + i ∨ 173 * s + 173 ≤ q) → M' 2 q = M 2 q) := by
  intro n
  induction n with
  | zero => intro i M k hi hm; exact ⟨M, rfl, fun _ _ => rfl, fun q a b => by omega, fun _ _ => rfl⟩
  | succ n ih =>
    intro i M k hi hm
    have e1 : (173 : Int32) * M 1 0 + nI i = nI (173 * s + i) := by rw [hm, show (173 : Int32) = nI 173 from rfl, pk_mul, nI_add]
    rw [f7_save_L54, if_neg (show ¬ (173 : Int32) ≤ nI i from nI_ge (b := 173) (by omega) (by omega)), ck_nI (by omega) (by omega), e1, ck_nI (by omega) (by omega), ix_nI (by omega), ix_nI (by omega), nI_1]
    simp only [bd]
    obtain ⟨M', x1, x2, x3, x4⟩ := ih (i + 1) (pset M 2 (upd (M 2) (173 * s + i) (M 0 i))) k (by omega) (by rw [pset_ne (by decide)]; exact hm)
    refine ⟨M', x1, fun j hj => (x2 j hj).trans (pset_ne hj), fun q a b => ?_, fun q a => ?_⟩
    · rcases Nat.lt_or_ge q (173 * s + (i + 1)) with y | y
      · rw [x4 q (Or.inl y), pset_same, show q = 173 * s + i by omega, upd_same, Nat.add_sub_cancel_left]
      · rw [x3 q y b, pset_ne (by decide)]
    · rw [x4 q (by omega), pset_same, upd_ne (by omega)]
theorem save_shift : ∀ (n i : Nat) (M : Pic) (k : Pic → Option Pic), i + n = 1038 → 173 ≤ i → ∃ M' : Pic, f7_save_L13 n (nI i) M k = k M' ∧ (∀ j : Nat, j ≠ 2 → M' j = M j) ∧ (∀ q : Nat, i - 173 ≤ q → q < 865 → M' 2 q = M 2 (q + 173)) ∧ (∀ q : Nat, q < i - 173 → M' 2 q = M 2 q) := by
  intro n
  induction n with
  | zero => intro i M k hi hm; exact ⟨M, rfl, fun _ _ => rfl, fun q a b => by omega, fun _ _ => rfl⟩
  | succ n ih =>
    intro i M k hi hm
    have e1 : nI i - 173 = nI (i - 173) := pk_sub (b := 173) hm
    rw [f7_save_L13, if_neg (show ¬ (1038 : Int32) ≤ nI i from nI_ge (b := 1038) (by omega) (by omega)), ck_nI (by omega) (by omega), e1, ck_nI (by omega) (by omega), ix_nI (by omega), ix_nI (by omega), nI_1]
    simp only [bd]
    obtain ⟨M', x1, x2, x3, x4⟩ := ih (i + 1) (pset M 2 (upd (M 2) (i - 173) (M 2 i))) k (by omega) (by omega)
    refine ⟨M', x1, fun j hj => (x2 j hj).trans (pset_ne hj), fun q a b => ?_, fun q a => ?_⟩
    · rcases Nat.lt_or_ge q (i + 1 - 173) with y | y
      · rw [x4 q y, pset_same, show q = i - 173 by omega, upd_same, show i - 173 + 173 = i by omega]
      · rw [x3 q y b, pset_same, upd_ne (by omega)]
    · rw [x4 q (by omega), pset_same, upd_ne (by omega)]
theorem placeOf_eq {G : Pic} {o r : Nat} (ho : o < 6) (hr : r ≤ 6) (h : G 1 0 = nI o) : f0_placeOf G (nI r) = some (nI ((o + r) % 6)) := by
  have e6 : nI (o + r) - nI (o + r) / 6 * 6 = nI ((o + r) % 6) := pk_rem (d := 6) (by omega) (by omega) (by omega)
  rw [f0_placeOf, h, nI_add, e6]
  simp only [bd]
  have : (o + r) % 6 < 6 := Nat.mod_lt _ (by omega)
  rw [if_neg (nI_pos (by omega)), if_neg (nI_ge this (by omega))]
/-- saving, where there is room -/
theorem save_core {S G M : Pic} {Z : Nat → Pic} {o n dc gc : Nat} (ho : o < 6) (hn : n ≤ 5) (g1 : G 1 0 = nI o) (g2 : G 2 0 = nI n) (m1 : M 1 0 = nI n) (hr : ∀ r : Nat, r < n → ∃ dc gc : Nat, SR (Z ((o + r) % 6)) (fun k => M 2 (173 * r + k)) dc gc) (h : SR S (M 0) dc gc) : ∃ (G' : Pic) (Z' : Nat → Pic) (M' : Pic), mtq (f0_placeOf G (G 2 0)) (G, Z) (fun e1 => (bd (f5_copyFrom (Z (ix e1)) S) (fun u5 => (bd (pset G 2 (fun _ => (((G 2) 0) + (1 : Int32)))) (fun Gb1 => (Gb1, (va_up Z (ix e1) u5))))))) = (G', Z') ∧ f7_save_L54 173 0 M (fun M_54 => (bd (pset M_54 1 (fun _ => (((M_54 1) 0) + (1 : Int32)))) (fun Mb6 => (some Mb6)))) = some M' ∧ HR G' Z' M' ∧ ∀ j : Nat, j ≠ 1 → j ≠ 2 → M' j = M j := by
  have hp : (o + n) % 6 < 6 := Nat.mod_lt _ (by omega)
  rw [g2, placeOf_eq ho (by omega) g1]
  obtain ⟨M1, x1, x2, x3, x4⟩ := save_row hn 173 0 M (fun M_54 => (bd (pset M_54 1 (fun _ => (((M_54 1) 0) + (1 : Int32)))) (fun Mb6 => (some Mb6)))) rfl m1
  have x1' := x1
  simp only [bd] at x1' ⊢
  simp only [mtq]
  refine ⟨_, _, _, rfl, x1', ?_, fun j a b => ?_⟩
  · refine ⟨o, n + 1, ho, by omega, ?_, ?_, ?_, fun r hr2 => ?_⟩
    · rw [pset_ne (by decide)]; exact g1
    · rw [pset_same, nI_1]
    · rw [pset_same, x2 1 (by decide), m1, nI_1]
    · rw [pset_ne (show (2 : Nat) ≠ 1 by decide), ix_nI (by omega)]
      by_cases y : r = n
      · subst y
        rw [va_up_self]
        refine ⟨dc, gc, ag_sr (copy_ag _ _) (sr_row h fun k hk => ?_)⟩
        rw [x3 (173 * r + k) (by omega) (by omega), Nat.add_sub_cancel_left]
      · obtain ⟨dc', gc', hh⟩ := hr r (by omega)
        rw [va_up_ne Z _ (show (o + r) % 6 ≠ (o + n) % 6 by omega)]
        exact ⟨dc', gc', sr_row hh fun k hk => x4 (173 * r + k) (Or.inl (by omega))⟩
  · rw [pset_ne a, x2 j b]
theorem save_eq {S G M : Pic} {Z : Nat → Pic} {dc gc : Nat} (h : SR S (M 0) dc gc) (hh : HR G Z M) : ∃ (G' : Pic) (Z' : Nat → Pic) (M' : Pic), f0_save G Z S = (G', Z') ∧ f7_save M = some M' ∧ HR G' Z' M' ∧ ∀ j : Nat, j ≠ 1 → j ≠ 2 → M' j = M j := by
  obtain ⟨o, n, ho, hn, g1, g2, m1, hr⟩ := hh
  rw [f0_save, f7_save]
  simp only [jn]
  by_cases c : n = 6
  · subst c
    have e6 : nI (o + 1) - nI (o + 1) / 6 * 6 = nI ((o + 1) % 6) := pk_rem (d := 6) (by omega) (by omega) (by omega)
    rw [if_pos (show G 2 0 = 6 from g2), if_pos (show M 1 0 = 6 from m1)]
    obtain ⟨M1, x1, x2, x3, -⟩ := save_shift 865 173 M (fun M_13 => (bd (pset M_13 1 (fun _ => (((M_13 1) 0) - (1 : Int32)))) (fun Mb13 => (f7_save_L54 173 (0 : Int32) Mb13 (fun M_54 => (bd (pset M_54 1 (fun _ => (((M_54 1) 0) + (1 : Int32)))) (fun Mb6 => (some Mb6)))))))) rfl (Nat.le_refl _)
    have e1 : M1 1 0 = nI 6 := by rw [x2 1 (by decide)]; exact m1
    obtain ⟨G', Z', M', y1, y2, y3, y4⟩ := save_core (S := S) (G := pset (pset G 1 (fun _ => nI ((o + 1) % 6))) 2 (fun _ => nI 5)) (M := pset M1 1 (fun _ => nI 5)) (Z := Z) (o := (o + 1) % 6) (n := 5) (dc := dc) (gc := gc) (Nat.mod_lt _ (by omega)) (Nat.le_refl _) (by rw [pset_ne (by decide), pset_same]) (by rw [pset_same]) (by rw [pset_same]) (fun r hr2 => by
        obtain ⟨dc', gc', z⟩ := hr (r + 1) (by omega)
        rw [pset_ne (show (2 : Nat) ≠ 1 by decide)]
        refine ⟨dc', gc', ?_⟩
        rw [show ((o + 1) % 6 + r) % 6 = (o + (r + 1)) % 6 by omega]
        exact sr_row z fun k hk => by rw [x3 (173 * r + k) (by omega) (by omega), show 173 * r + k + 173 = 173 * (r + 1) + k by omega]) (by rw [pset_ne (by decide), x2 0 (by decide)]; exact h)
    refine ⟨G', Z', M', ?_, ?_, y3, fun j a b => ?_⟩
    · rw [g1, nI_1, e6]
      simp only [bd]
      rw [show (pset G 1 (fun _ => nI ((o + 1) % 6))) 2 0 - 1 = nI 5 by rw [pset_ne (by decide), g2]; rfl]
      exact y1
    · refine x1.trans ?_
      simp only [bd]
      rw [show M1 1 0 - 1 = nI 5 by rw [e1]; rfl]
      exact y2
    · rw [y4 j a b, pset_ne a, x2 j b]
  · rw [if_neg (show ¬ G 2 0 = 6 from fun z => c ((nI_eq (b := 6) (by omega) (by omega)).mp (g2.symm.trans z))), if_neg (show ¬ M 1 0 = 6 from fun z => c ((nI_eq (b := 6) (by omega) (by omega)).mp (m1.symm.trans z)))]
    exact save_core ho (by omega) g1 g2 m1 hr h
theorem undo_row {s : Nat} (hs : s ≤ 5) {α : Type} : ∀ (n i : Nat) (M : Pic) (k : Pic → Option (Int32 × Pic)), i + n = 173 → M 1 0 = nI s → ∃ M' : Pic, f7_undo_L37 n (nI i) M k = k M' ∧ (∀ j : Nat, j ≠ 0 → M' j = M j) ∧ (∀ q : Nat, i ≤ q → q < 173 → M' 0 q = M 2 (173 * s + q)) ∧ (∀ q : Nat, q < i → M' 0 q = M 0 q) := by
  intro n
  induction n with
  | zero => intro i M k hi hm; exact ⟨M, rfl, fun _ _ => rfl, fun q a b => by omega, fun _ _ => rfl⟩
  | succ n ih =>
    intro i M k hi hm
    have e1 : (173 : Int32) * M 1 0 + nI i = nI (173 * s + i) := by rw [hm, show (173 : Int32) = nI 173 from rfl, pk_mul, nI_add]
    rw [f7_undo_L37, if_neg (show ¬ (173 : Int32) ≤ nI i from nI_ge (b := 173) (by omega) (by omega)), e1, ck_nI (by omega) (by omega), ck_nI (by omega) (by omega), ix_nI (by omega), ix_nI (by omega), nI_1]
    simp only [bd]
    obtain ⟨M', x1, x2, x3, x4⟩ := ih (i + 1) (pset M 0 (upd (M 0) i (M 2 (173 * s + i)))) k (by omega) (by rw [pset_ne (by decide)]; exact hm)
    refine ⟨M', x1, fun j hj => (x2 j hj).trans (pset_ne hj), fun q a b => ?_, fun q a => ?_⟩
    · rcases Nat.lt_or_ge q (i + 1) with y | y
      · rw [x4 q y, pset_same, show q = i by omega, upd_same]
      · rw [x3 q y b, pset_ne (by decide)]
    · rw [x4 q (by omega), pset_same, upd_ne (by omega)]
