theorem lex_anti {S : Pic} {b c : Nat} (h1 : lexle S b c) (h2 : lexle S c b) : b = c := by
  rcases h1 with z | ⟨z, z2⟩
  · rcases h2 with y | ⟨y, y2⟩
    · exact absurd (Int32.lt_trans z y) (fun q => Int32.lt_irrefl q)
    · rw [y] at z; exact absurd z (fun q => Int32.lt_irrefl q)
  · rcases h2 with y | ⟨y, y2⟩
    · rw [z] at y; exact absurd y (fun q => Int32.lt_irrefl q)
    · omega
theorem best_uniq {S : Pic} {f g : Nat → Int32} {e day lo hi : Nat} {r r' : Int32} (hc : ∀ c : Nat, lo ≤ c → c < hi → (cand S f e day c ↔ cand S g e day c)) (h : best S f e day lo hi r) (h' : best S g e day lo hi r') : r = r' := by
  rcases h with ⟨h1, h2⟩ | ⟨b, h1, h2, h3, h4, h5⟩
  · rcases h' with ⟨k1, k2⟩ | ⟨b', k1, k2, k3, k4, k5⟩
    · rw [h1, k1]
    · exact absurd ((hc b' k2 k3).mpr k4) (h2 b' k2 k3)
  · rcases h' with ⟨k1, k2⟩ | ⟨b', k1, k2, k3, k4, k5⟩
    · exact absurd ((hc b h2 h3).mp h4) (k2 b h2 h3)
    · rw [h1, k1, lex_anti (h5 b' k2 k3 ((hc b' k2 k3).mpr k4)) (k5 b h2 h3 ((hc b h2 h3).mp h4))]
/-- the source that a serving of e at cell k finds, by what was found -/
def nx (S : Pic) (fnd : Nat → Int32) (e k : Nat) : Int32 := f1_nextSource (fun _ => fnd) S (nI e) (nI (k / 3))
/-- what the servings of e ahead of cell k have found -/
def Pf (S : Pic) (e : Nat) : Nat → Nat → Int32
  | 0 => fun _ => 0
  | k + 1 => if S 11 k = nI e then (if nx S (Pf S e k) e k = -1 then Pf S e k else upd (Pf S e k) (ix (nx S (Pf S e k) e k)) 1) else Pf S e k
/-- each serving of e finds a source -/
def snd (S : Pic) (e : Nat) : Prop := ∀ k : Nat, k < 84 → S 11 k = nI e → ¬ nx S (Pf S e k) e k = -1
theorem nx_b {S : Pic} {fnd : Nat → Int32} {e k : Nat} (hk : k < 84) : best S fnd e (k / 3) (3 * (k / 3 - 6)) (3 * (k / 3)) (nx S fnd e k) := nx_best (Y := fun _ => fnd) (by omega)
theorem nx_congr {S : Pic} {f g : Nat → Int32} {e k : Nat} (hk : k < 84) (h : ∀ c : Nat, c < 84 → f6_at 12 (S 5) (S 11 c) = nI e → f c = g c) : nx S f e k = nx S g e k := by
  refine best_uniq (fun c h1 h2 => ?_) (nx_b hk) (nx_b hk)
  constructor
  · rintro ⟨a, b, d⟩; exact ⟨a, by rw [← h c (by omega) a]; exact b, d⟩
  · rintro ⟨a, b, d⟩; exact ⟨a, by rw [h c (by omega) a]; exact b, d⟩
theorem nx_in {S : Pic} {fnd : Nat → Int32} {e k : Nat} (hk : k < 84) (h : ¬ nx S fnd e k = -1) : ∃ b : Nat, b < 84 ∧ b < 3 * (k / 3) ∧ nx S fnd e k = nI b ∧ cand S fnd e (k / 3) b := by
  rcases nx_b (S := S) (fnd := fnd) (e := e) hk with ⟨h1, -⟩ | ⟨b, h1, h2, h3, h4, -⟩
  · exact absurd h1 h
  · exact ⟨b, by omega, h3, h1, h4⟩
theorem Pf_out {S : Pic} {e : Nat} : ∀ (k c : Nat), k ≤ 84 → c < 84 → ¬ f6_at 12 (S 5) (S 11 c) = nI e → Pf S e k c = 0 := by
  intro k
  induction k with
  | zero => intro c _ _ _; rfl
  | succ k ih =>
    intro c hk hc hn
    rw [Pf]
    by_cases c1 : S 11 k = nI e
    · rw [if_pos c1]
      by_cases c2 : nx S (Pf S e k) e k = -1
      · rw [if_pos c2]; exact ih c (by omega) hc hn
      · rw [if_neg c2]
        obtain ⟨b, hb, -, e1, hcand⟩ := nx_in (by omega) c2
        rw [e1, ix_nI (by omega), upd, if_neg (fun z => hn (by rw [z]; exact hcand.1))]
        exact ih c (by omega) hc hn
    · rw [if_neg c1]; exact ih c (by omega) hc hn
