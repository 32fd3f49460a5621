section DG
variable {S G N T M : Pic} {Z : Nat → Pic} {dc gc : Nat}
theorem used_eq (Y : Pic) (h : Rel S (M 0) dc gc) (w : Wf S dc) : ∃ (z : UInt64) (Y' M' : Pic), f6_usedShare S Y = some (z, Y') ∧ f7_used M = some (z, M') ∧ Fr M M' ∧ f6_bitsOfShare z = some (fJxe99ae_doubleToLongBits_ccdee z) := by
  obtain ⟨M1, x1, x2⟩ := sources0_eq h w
  obtain ⟨M2, y1, y2⟩ := sources1_eq (x2.rel h) w
  obtain ⟨Y', z1⟩ := wastedOfAll_eq w h.1 h.2.2.1 Y
  have hA := nSrc_le (S := S)
  have hU := nWst_le (S := S)
  rw [f6_usedShare, f7_used, sourceCount_eq, x1, bd_eq, ob2_some]
  rcases Nat.eq_zero_or_pos (nSrc S) with c | c
  · rw [c, if_neg (show ¬ (0 : Int32) < nI 0 by decide), if_pos (show nI 0 = (0 : Int32) from rfl)]
    exact ⟨_, Y, M1, rfl, rfl, x2, share_one⟩
  · obtain ⟨s1, s2⟩ := share_ok (u := nSrc S - nWst S) c hA (by omega)
    unfold shr at s1 s2
    have e : nI (nSrc S) - nI (nWst S) = nI (nSrc S - nWst S) := pk_sub hU
    rw [if_pos (show (0 : Int32) < nI (nSrc S) from nI_lt (a := 0) c (by omega)), if_neg (nI_ne0 c (by omega)), z1, bd2_eq, bd_eq, y1, ob2_some, e]
    have k1 : ∀ {α : Type} (t : Option α), ckn (FP.ddiv (FP.i2d (nI (nSrc S - nWst S))) (FP.i2d (nI (nSrc S)))) t = t := fun t => by
      unfold ckn
      rw [if_pos s1]
    rw [k1, k1]
    exact ⟨_, Y', M2, rfl, rfl, x2.trans y2, s2⟩
theorem st_usedShare (I : INV S G Z N T M) (Y : Pic) : ∃ (z : UInt64) (Y' M' : Pic), f6_usedShare S Y = some (z, Y') ∧ f7_usedShare M = some (z, M') ∧ INV S G Z N T M' := by
  obtain ⟨⟨dc, gc, h, w, -⟩, -⟩ := id I
  have h' : Rel S ((pset M 7 (fun _ => (0 : Int32))) 0) dc gc := h
  obtain ⟨z, Y', M', x1, x2, x3, -⟩ := used_eq Y h' w
  rw [f7_usedShare, x2, ob2_some]
  exact ⟨z, Y', M', x1, rfl, I.e6 (e7_fr x3)⟩
theorem dg6 (w : Wf S dc) : ∀ (n i : Nat) (x : Int64) (Y M : Pic), i + n = 14 → Rel S (M 0) dc gc → HR G Z M → SN N M → ∃ (x' : Int64) (Y' M' : Pic), (∀ k, f6_digest_L6 S G N (n + 1) x (nI i) Y k = k x' Y') ∧ (∀ k, f7_digest_L14 n (nI i) M x k = k M' x') ∧ Fr M M' := by
  intro n
  induction n with
  | zero =>
    intro i x Y M hi h hh hn
    refine ⟨x, Y, M, fun k => ?_, fun k => rfl, Fr.rfl'⟩
    rw [f6_digest_L6, if_pos (show (13 : Int32) < nI i from nI_lt (a := 13) (by omega) (by omega))]
  | succ n ih =>
    intro i x Y M hi h hh hn
    obtain ⟨r, Y1, M1, x1, x2, x3⟩ := counted_eq Y h w hh hn (show i ≤ 13 by omega)
    have hn1 : SN N M1 := by
      unfold SN at hn ⊢
      rw [x3 3 (by decide) (by decide), x3 4 (by decide) (by decide)]; exact hn
    obtain ⟨x', Y', M', y1, y2, y3⟩ := ih (i + 1) (31 * x + r.toInt64) Y1 M1 (by omega) (x3.rel h) (hr_same hh (x3 1 (by decide) (by decide)) (x3 2 (by decide) (by decide))) hn1
    refine ⟨x', Y', M', fun k => ?_, fun k => ?_, x3.trans y3⟩
    · rw [f6_digest_L6, if_neg (show ¬ (13 : Int32) < nI i from nI_nlt (a := 13) (by omega) (by omega)), x1, bd2_eq, bd_eq, nI_1]
      exact y1 k
    · rw [f7_digest_L14, if_neg (show ¬ (14 : Int32) ≤ nI i from nI_ge (b := 14) (by omega) (by omega)), x2, ob2_some, bd_eq, nI_1, f7_mix]
      exact y2 k
theorem dg33 (h : Rel S (M 0) dc gc) : ∀ (n i : Nat) (x : Int64), i + n = 3 → ∃ x' : Int64, (∀ k, f6_digest_L33 S n x (nI i) k = k x') ∧ ∀ k, f7_digest_L38 M n (nI i) x k = k x' := by
  intro n
  induction n with
  | zero => intro i x hi; exact ⟨x, fun k => rfl, fun k => rfl⟩
  | succ n ih =>
    intro i x hi
    obtain ⟨x', y1, y2⟩ := ih (i + 1) (31 * x + (S 10 i).toInt64) (by omega)
    refine ⟨x', fun k => ?_, fun k => ?_⟩
    · rw [f6_digest_L33, if_neg (gq3 (by omega)), f6_at_nI (by omega) (by omega), bd_eq, nI_1]
      exact y1 k
    · rw [f7_digest_L38, if_neg (gq3 (by omega)), ck_nI (by omega) (by omega), ix_nI (by omega), h.2.2.2.2.2.2.2.2.1 i (by omega), bd_eq, nI_1, f7_mix]
      exact y2 k
theorem dg79 (w : Wf S dc) {e : Nat} (he : e < dc) : ∀ (n i : Nat) (x : Int64) (Y M : Pic), i + n = 9 → Rel S (M 0) dc gc → ∃ (x' : Int64) (Y' M' : Pic), (∀ k, f6_digest_L79 (nI e) S (n + 1) x (nI i) Y k = k x' Y') ∧ (∀ k, f7_digest_L74 (nI e) n (nI i) M x k = k M' x') ∧ Fr M M' := by
  intro n
  induction n with
  | zero =>
    intro i x Y M hi h
    refine ⟨x, Y, M, fun k => ?_, fun k => rfl, Fr.rfl'⟩
    rw [f6_digest_L79, if_pos (show (8 : Int32) < nI i from nI_lt (a := 8) (by omega) (by omega))]
  | succ n ih =>
    intro i x Y M hi h
    obtain ⟨r, Y1, M1, x1, x2, x3⟩ := dishNow_eq Y h w he (show i ≤ 8 by omega)
    obtain ⟨x', Y', M', y1, y2, y3⟩ := ih (i + 1) (31 * x + r.toInt64) Y1 M1 (by omega) (x3.rel h)
    refine ⟨x', Y', M', fun k => ?_, fun k => ?_, x3.trans y3⟩
    · rw [f6_digest_L79, if_neg (show ¬ (8 : Int32) < nI i from nI_nlt (a := 8) (by omega) (by omega)), x1, bd2_eq, bd_eq, nI_1]
      exact y1 k
    · rw [f7_digest_L74, if_neg (show ¬ (9 : Int32) ≤ nI i from nI_ge (b := 9) (by omega) (by omega)), x2, ob2_some, bd_eq, nI_1, f7_mix]
      exact y2 k
theorem dg65 (w : Wf S dc) (g : gd S dc) : ∀ (n i : Nat) (x : Int64) (Y M : Pic), i ≤ dc → dc + 1 ≤ i + n → Rel S (M 0) dc gc → ∃ (x' : Int64) (Y' M' : Pic), (∀ k, f6_digest_L65 n x (nI i) S Y k = k x' S Y') ∧ (∀ k, f7_digest_L62 n (nI i) M x k = k M' x') ∧ Fr M M' := by
  intro n
  induction n with
  | zero => intro i x Y M h1 h2; omega
  | succ n ih =>
    intro i x Y M h1 h2 h
    have hdc := h.1
    have e3 : M 0 (ix (3 : Int32)) = nI dc := h.2.2.2.2.1
    rcases Nat.lt_or_ge i dc with q | q
    · obtain ⟨xa, Ya, Ma, a1, a2, a3⟩ := dg79 (gc := gc) w q 9 0 x Y M rfl h
      obtain ⟨r, Yb, Mb, b1, b2, b3⟩ := dayFor_eq Ya (a3.rel h) w g q
      obtain ⟨x', Y', M', y1, y2, y3⟩ := ih (i + 1) (31 * xa + r.toInt64) Yb Mb (by omega) (by omega) ((a3.trans b3).rel h)
      have a1' : ∀ k, f6_digest_L79 (nI i) S 10 x 0 Y k = k xa Ya := a1
      have a2' : ∀ k, f7_digest_L74 (nI i) 9 0 M x k = k Ma xa := a2
      refine ⟨x', Y', M', fun k => ?_, fun k => ?_, (a3.trans b3).trans y3⟩
      · rw [f6_digest_L65, h.2.2.1, if_neg (nI_ge q (by omega)), a1', b1, bd3_eq, bd_eq, nI_1]
        exact y1 k
      · rw [f7_digest_L62, e3, if_neg (nI_ge q (by omega)), a2', b2, ob2_some, bd_eq, nI_1, f7_mix]
        exact y2 k
    · refine ⟨x, Y, M, fun k => ?_, fun k => ?_, Fr.rfl'⟩
      · rw [f6_digest_L65, h.2.2.1, if_pos (nI_le q (by omega))]
      · rw [f7_digest_L62, e3, if_pos (nI_le q (by omega))]
theorem l145 {g : Nat} {x : Int64} (k : Int64 → Option (Int64 × Pic × Pic)) : f6_digest_L145 S (nI g) 4 x 0 k = k (31 * (31 * (31 * x + (f6_figureOfGuest S (nI g) (nI 0)).toInt64) + (f6_figureOfGuest S (nI g) (nI 1)).toInt64) + (f6_figureOfGuest S (nI g) (nI 2)).toInt64) := by
  rw [show f6_digest_L145 S (nI g) 4 x 0 k = f6_digest_L145 S (nI g) 4 x (nI 0) k from rfl]
  rw [f6_digest_L145, if_neg (show ¬ (2 : Int32) < nI 0 by decide), bd_eq, bd_eq, nI_1, f6_digest_L145, if_neg (show ¬ (2 : Int32) < nI (0 + 1) by decide), bd_eq, bd_eq, nI_1, f6_digest_L145, if_neg (show ¬ (2 : Int32) < nI (0 + 1 + 1) by decide), bd_eq, bd_eq, nI_1, f6_digest_L145, if_pos (show (2 : Int32) < nI (0 + 1 + 1 + 1) by decide)]
theorem l115 (h : Rel S (M 0) dc gc) {g : Nat} (hg : g < gc) {m : Nat} {x : Int64} (k : Int64 → Option (Int64 × Pic × Int64)) : f7_digest_L115 M (m + 3) (nI (3 * g)) x k = f7_digest_L115 M m (nI (3 * (g + 1))) (31 * (31 * (31 * x + (f6_figureOfGuest S (nI g) (nI 0)).toInt64) + (f6_figureOfGuest S (nI g) (nI 1)).toInt64) + (f6_figureOfGuest S (nI g) (nI 2)).toInt64) k := by
  have hgc := h.2.1
  have e4 : M 0 (ix (4 : Int32)) = nI gc := h.2.2.2.2.2.1
  have e3 : (3 : Int32) * nI gc = nI (3 * gc) := by rw [show (3 : Int32) = nI 3 from rfl, pk_mul]
  have stp : ∀ (j n : Nat) (y : Int64), j ≤ 2 → f7_digest_L115 M (n + 1) (nI (3 * g + j)) y k = f7_digest_L115 M n (nI (3 * g + (j + 1))) (31 * y + (f6_figureOfGuest S (nI g) (nI j)).toInt64) k := fun j n y hj => by
    have d3 : nI (3 * g + j) / 3 = nI g := by rw [cell3 (by omega), show (3 * g + j) / 3 = g by omega]
    have r3 : nI (3 * g + j) - nI (3 * g + j) / 3 * 3 = nI j := by
      have := pk_rem (a := 3 * g + j) (d := 3) (by omega) (by omega) (by omega)
      rw [show (3 * g + j) % 3 = j by omega] at this
      exact this
    rw [f7_digest_L115, e4, e3, if_neg (nI_ge (by omega) (by omega)), r3, d3, guestNow_eq h hg hj, ob1_some, bd_eq, nI_1, f7_mix, Nat.add_assoc]
  have s0 : ∀ y : Int64, f7_digest_L115 M (m + 3) (nI (3 * g)) y k = f7_digest_L115 M (m + 2) (nI (3 * g + 1)) (31 * y + (f6_figureOfGuest S (nI g) (nI 0)).toInt64) k := fun y => stp 0 (m + 2) y (by omega)
  have s1 : ∀ y : Int64, f7_digest_L115 M (m + 2) (nI (3 * g + 1)) y k = f7_digest_L115 M (m + 1) (nI (3 * g + 2)) (31 * y + (f6_figureOfGuest S (nI g) (nI 1)).toInt64) k := fun y => stp 1 (m + 1) y (by omega)
  have s2 : ∀ y : Int64, f7_digest_L115 M (m + 1) (nI (3 * g + 2)) y k = f7_digest_L115 M m (nI (3 * g + 3)) (31 * y + (f6_figureOfGuest S (nI g) (nI 2)).toInt64) k := fun y => stp 2 m y (by omega)
  rw [s0, s1, s2, show 3 * g + 3 = 3 * (g + 1) by omega]
theorem dg131 (h : Rel S (M 0) dc gc) : ∀ (n g : Nat) (x : Int64), g + n = gc → ∃ x' : Int64, (∀ k, f6_digest_L131 S n x (nI g) k = k x') ∧ ∀ k, f7_digest_L115 M (3 * n) (nI (3 * g)) x k = k x' := by
  intro n
  induction n with
  | zero => intro g x hg; exact ⟨x, fun k => rfl, fun k => rfl⟩
  | succ n ih =>
    intro g x hg
    have hgc := h.2.1
    obtain ⟨x', y1, y2⟩ := ih (g + 1) (31 * (31 * (31 * x + (f6_figureOfGuest S (nI g) (nI 0)).toInt64) + (f6_figureOfGuest S (nI g) (nI 1)).toInt64) + (f6_figureOfGuest S (nI g) (nI 2)).toInt64) (by omega)
    refine ⟨x', fun k => ?_, fun k => ?_⟩
    · rw [f6_digest_L131, h.2.2.2.1, if_neg (nI_ge (by omega) (by omega)), l145, nI_1]
      exact y1 k
    · rw [show 3 * (n + 1) = 3 * n + 3 by omega, l115 h (by omega)]
      exact y2 k
theorem dgA (h : Rel S (M 0) dc gc) (w : Wf S dc) {day : Nat} (hd : day < 28) : ∀ (n i : Nat) (x : Int64), i + n = 5 → ∃ x' : Int64, (∀ k, f6_digest_L189 (nI day) S (n + 1) x (nI i) k = k x') ∧ ∀ k, f7_mixDay_L2 M (nI day) n (nI i) x k = k x' := by
  intro n
  induction n with
  | zero =>
    intro i x hi
    refine ⟨x, fun k => ?_, fun k => rfl⟩
    rw [f6_digest_L189, if_pos (show (4 : Int32) < nI i from nI_lt (a := 4) (by omega) (by omega))]
  | succ n ih =>
    intro i x hi
    obtain ⟨x', y1, y2⟩ := ih (i + 1) (31 * x + (f6_figureOfDay S (nI day) (nI i)).toInt64) (by omega)
    refine ⟨x', fun k => ?_, fun k => ?_⟩
    · rw [f6_digest_L189, if_neg (show ¬ (4 : Int32) < nI i from nI_nlt (a := 4) (by omega) (by omega)), bd_eq, bd_eq, nI_1]
      exact y1 k
    · rw [f7_mixDay_L2, if_neg (show ¬ (5 : Int32) ≤ nI i from nI_ge (b := 5) (by omega) (by omega)), dayNow_eq h w hd (by omega), ob1_some, bd_eq, nI_1, f7_mix]
      exact y2 k
theorem dgB (w : Wf S dc) (g : gd S dc) {day : Nat} (hd : day < 28) : ∀ (n p : Nat) (x : Int64) (Y M : Pic), p + n = 3 → Rel S (M 0) dc gc → ∃ (x' : Int64) (Y' M' : Pic), (∀ k, f6_digest_L219 (nI day) n x (nI p) S Y k = k x' S Y') ∧ (∀ k, f7_mixDay_L26 (nI day) n (nI p) M x k = k M' x') ∧ Fr M M' := by
  intro n
  induction n with
  | zero => intro p x Y M hp h; exact ⟨x, Y, M, fun k => rfl, fun k => rfl, Fr.rfl'⟩
  | succ n ih =>
    intro p x Y M hp h
    obtain ⟨r, Ya, Ma, a1, a2, a3⟩ := source_eq Y h w g hd (show p < 3 by omega)
    obtain ⟨r2, Yb, Mb, b1, b2, b3, -⟩ := bestFor_eq Ya (a3.rel h) w g hd (show p < 3 by omega)
    obtain ⟨x', Y', M', y1, y2, y3⟩ := ih (p + 1) (31 * (31 * (31 * x + (S 11 (3 * day + p)).toInt64) + r.toInt64) + r2.toInt64) Yb Mb (by omega) ((a3.trans b3).rel h)
    refine ⟨x', Y', M', fun k => ?_, fun k => ?_, (a3.trans b3).trans y3⟩
    · rw [f6_digest_L219, if_neg (gq3 (by omega)), f6_cellOf_nI, f6_at_nI (by omega) (by omega), bd_eq, a1, bd2_eq, bd_eq, b1]
      rw [show ∀ f : Int32 → Pic → Pic → Option (Int64 × Pic × Pic), ob3 (some (r2, Yb, S)) f = f r2 Yb S from fun f => rfl, bd_eq, nI_1]
      exact y1 k
    · rw [f7_mixDay_L26, if_neg (gq3 (by omega)), h.at hd (by omega), ob1_some, bd_eq, a2, ob2_some, bd_eq, b2, ob2_some, bd_eq, nI_1, f7_mix, f7_mix, f7_mix]
      exact y2 k
theorem dg180 (w : Wf S dc) (g : gd S dc) : ∀ (n i : Nat) (x : Int64) (Y M : Pic), i + n = 28 → Rel S (M 0) dc gc → ∃ (x' : Int64) (Y' M' : Pic), (∀ k, f6_digest_L180 n x (nI i) S Y k = k x' S Y') ∧ (∀ k, f7_digest_L150 n (nI i) M x k = k M' x') ∧ Fr M M' := by
  intro n
  induction n with
  | zero => intro i x Y M hi h; exact ⟨x, Y, M, fun k => rfl, fun k => rfl, Fr.rfl'⟩
  | succ n ih =>
    intro i x Y M hi h
    obtain ⟨xa, a1, a2⟩ := dgA h w (show i < 28 by omega) 5 0 x rfl
    obtain ⟨xb, Yb, Mb, b1, b2, b3⟩ := dgB (gc := gc) w g (show i < 28 by omega) 3 0 xa Y M rfl h
    obtain ⟨x', Y', M', y1, y2, y3⟩ := ih (i + 1) xb Yb Mb (by omega) (b3.rel h)
    have a1' : ∀ k, f6_digest_L189 (nI i) S 6 x 0 k = k xa := a1
    have b1' : ∀ k, f6_digest_L219 (nI i) 3 xa 0 S Y k = k xb S Yb := b1
    have a2' : ∀ k, f7_mixDay_L2 M (nI i) 5 0 x k = k xa := a2
    have b2' : ∀ k, f7_mixDay_L26 (nI i) 3 0 M xa k = k Mb xb := b2
    refine ⟨x', Y', M', fun k => ?_, fun k => ?_, b3.trans y3⟩
    · rw [f6_digest_L180, if_neg (gq28 (by omega)), a1', b1', nI_1]
      exact y1 k
    · rw [f7_digest_L150, if_neg (gq28 (by omega)), f7_mixDay, a2', b2', ob2_some, nI_1]
      exact y2 k
theorem dg335 {L : Nat} (h : CD T L) (h5 : M 5 0 = nI L) (h6 : ∀ i : Nat, i < L → M 6 i = T 0 i) : ∀ (n i : Nat) (x : Int64), i + n = L → ∃ x' : Int64, (∀ k, f6_digest_L335 T n x (nI i) k = k x') ∧ ∀ k, f7_digest_L189 M n (nI i) x k = k x' := by
  intro n
  induction n with
  | zero => intro i x hi; exact ⟨x, fun k => rfl, fun k => rfl⟩
  | succ n ih =>
    intro i x hi
    have hL := h.1
    obtain ⟨x', y1, y2⟩ := ih (i + 1) (31 * x + (T 0 i).toInt64) (by omega)
    refine ⟨x', fun k => ?_, fun k => ?_⟩
    · rw [f6_digest_L335, h.2.1, if_neg (nI_ge (by omega) (by omega)), f6_at_nI (by omega) (by omega), bd_eq, nI_1]
      exact y1 k
    · rw [f7_digest_L189, h5, if_neg (nI_ge (by omega) (by omega)), ck_nI (by omega) (by omega), ix_nI (by omega), h6 i (by omega), bd_eq, nI_1, f7_mix]
      exact y2 k
theorem st_digest (I : INV S G Z N T M) (Y : Pic) (hs : Int64) : ∃ (d : Int64) (Y' M' : Pic), f6_digest S Y G N T = some (d, S, Y') ∧ f7_digest M hs = some (d, M', d) ∧ INV S G Z N T M' := by
  obtain ⟨⟨dc, gc, h, w, g, -⟩, hh, hn, ht⟩ := id I
  obtain ⟨L, hcd, h5, h6⟩ := tx_cd ht
  have hdc := h.1
  have hgc := h.2.1
  have hL := hcd.1
  have h' : Rel S ((pset M 7 (fun _ => (0 : Int32))) 0) dc gc := h
  have hh' : HR G Z (pset M 7 (fun _ => (0 : Int32))) := hh
  have hn' : SN N (pset M 7 (fun _ => (0 : Int32))) := hn
  obtain ⟨x1, Y1, M1, a1, a2, a3⟩ := dg6 (G := G) (Z := Z) (N := N) w 14 0 2531 Y _ rfl h' hh' hn'
  have r1 := a3.rel h'
  obtain ⟨x2, b1, b2⟩ := dg33 r1 3 0 x1 rfl
  obtain ⟨x3, Y3, M3, c1, c2, c3⟩ := dg65 (gc := gc) w g 13 0 x2 Y1 M1 (Nat.zero_le _) (by omega) r1
  have r3 := c3.rel r1
  obtain ⟨x4, d1, d2⟩ := dg131 r3 gc 0 x3 (by omega)
  obtain ⟨x5, Y5, M5, e1, e2, e3⟩ := dg180 (gc := gc) w g 28 0 x4 Y3 M3 rfl r3
  have r5 := e3.rel r3
  obtain ⟨z, Y6, M6, f1, f2, f3, f4⟩ := used_eq Y5 r5 w
  have hf : Fr (pset M 7 (fun _ => (0 : Int32))) M6 := ((a3.trans c3).trans e3).trans f3
  have g5 : M6 5 0 = nI L := by rw [hf 5 (by decide) (by decide), pset_ne (by decide)]; exact h5
  have g6 : ∀ i : Nat, i < L → M6 6 i = T 0 i := fun i hi => by rw [hf 6 (by decide) (by decide), pset_ne (by decide)]; exact h6 i hi
  obtain ⟨x6, k1, k2⟩ := dg335 hcd g5 g6 L 0 (31 * (31 * x5 + fJxe99ae_doubleToLongBits_ccdee z) + (nI L).toInt64) (by omega)
  have fg : fuelN (0 : Int32) (nI gc) = gc := by rw [← nI_0, fuelN_nI (by omega) (by omega)]; rfl
  have fL : fuelN (0 : Int32) (nI L) = L := by rw [← nI_0, fuelN_nI (by omega) (by omega)]; rfl
  have e3g : (3 : Int32) * M3 0 (ix (4 : Int32)) = nI (3 * gc) := by
    have q4 : M3 0 (ix (4 : Int32)) = nI gc := r3.2.2.2.2.2.1
    rw [q4, show (3 : Int32) = nI 3 from rfl, pk_mul]
  have f3g : fuelN (0 : Int32) (nI (3 * gc)) = 3 * gc := by rw [← nI_0, fuelN_nI (by omega) (by omega)]; rfl
  have a1' : ∀ k, f6_digest_L6 S G N 15 2531 0 Y k = k x1 Y1 := a1
  have a2' : ∀ k, f7_digest_L14 14 0 (pset M 7 (fun _ => (0 : Int32))) 2531 k = k M1 x1 := a2
  have b1' : ∀ k, f6_digest_L33 S 3 x1 0 k = k x2 := b1
  have b2' : ∀ k, f7_digest_L38 M1 3 0 x1 k = k x2 := b2
  have c1' : ∀ k, f6_digest_L65 13 x2 0 S Y1 k = k x3 S Y3 := c1
  have c2' : ∀ k, f7_digest_L62 13 0 M1 x2 k = k M3 x3 := c2
  have d1' : ∀ k, f6_digest_L131 S gc x3 0 k = k x4 := d1
  have d2' : ∀ k, f7_digest_L115 M3 (3 * gc) 0 x3 k = k x4 := d2
  have e1' : ∀ k, f6_digest_L180 28 x4 0 S Y3 k = k x5 S Y5 := e1
  have e2' : ∀ k, f7_digest_L150 28 0 M3 x4 k = k M5 x5 := e2
  have k1' : ∀ k, f6_digest_L335 T L (31 * (31 * x5 + fJxe99ae_doubleToLongBits_ccdee z) + (nI L).toInt64) 0 k = k x6 := k1
  have k2' : ∀ k, f7_digest_L189 M6 L 0 (31 * (31 * x5 + fJxe99ae_doubleToLongBits_ccdee z) + (nI L).toInt64) k = k x6 := k2
  refine ⟨x6, Y6, M6, ?_, ?_, I.e6 (e7_fr hf)⟩
  · rw [f6_digest, a1', b1', c1', h.2.2.2.1, fg, d1', e1', f1, ob2_some, f4, ob1_some, bd_eq, bd_eq, hcd.2.1, fL, k1']
  · rw [f7_digest, a2', b2', c2', e3g, f3g, d2', e2', f2, ob2_some, bd_eq, bd_eq, bd_eq, f7_mix, f7_mix, g5, fL, k2']
end DG
