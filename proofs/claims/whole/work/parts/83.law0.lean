/-! the law's loop: what stays, what goes on -/
def LC (dC : Nat → ClassId) (dI : Nat → Nat → Nat) (cI cZ cS cJ : ClassId) (p : Program) (s : State) (m : MethodId) (c : Code) (b L : Nat) (xs : Nat → Int32) : Prop :=
  p.tables.exec = Jvm.exec ∧ c.code = code ∧ c.maxLocals = 9 ∧ s.vm.findClass RL = some m.cls ∧ (∀ w ∈ wsL_law, w.before #[Value.ref b] s = true) ∧ va_K (dC, dI) vwCl (tyL cI cZ cS cJ) s ∧ NW s ∧ XW s.heap.size s ∧ NC s ∧ va_X b L xs s s.heap ∧ b < s.heap.size ∧ L ≤ 2560
/-- the whole world: the planner's, the reckoner's, the row of one long -/
abbrev LWo (cI cZ cS cJ : ClassId) (aF aN aT aL aO aH : Nat → Nat) (ah : Nat → Nat → Nat) (aP aX aM : Nat → Nat) (ao : Nat) (S R Y G : Pic) (Z : Nat → Pic) (N T M : Pic) (hs : Int64) (f : Nat → Int64) : va_W := wFm aF aN aT aL aO aH aP aX ++ (wSt cI aN S ++ (wSt cI aT R ++ (wLo cI aL Y ++ (wOu aO aN aL ++ (wHi cS aH ah G ++ (wZs cI ah Z ++ (wSn cI cZ aP N ++ (wTx cI aX T ++ (wMo cI aM M hs ++ (wOt cJ ao f))))))))))
def LI (dC : Nat → ClassId) (dI : Nat → Nat → Nat) (cI cZ cS cJ : ClassId) (aF aN aT aL aO aH : Nat → Nat) (ah : Nat → Nat → Nat) (aP aX aM : Nat → Nat) (ao : Nat) (s : State) (H : Heap) : Prop := ∃ (S R Y G : Pic) (Z : Nat → Pic) (N T M : Pic) (hs : Int64) (f : Nat → Int64), INV S G Z N T M ∧ va_P (dC, dI) vwCl (LWo cI cZ cS cJ aF aN aT aL aO aH ah aP aX aM ao S R Y G Z N T M hs f) H ∧ va_D (fun q => s.heap.size ≤ q) (LWo cI cZ cS cJ aF aN aT aL aO aH ah aP aX aM ao S R Y G Z N T M hs f)
theorem pLS {D : va_G} {cI cZ cS cJ : ClassId} {ws wc : va_W} {s : State} {H : Heap} {locs : List Loc} {As : List Value} (hK : va_K D vwCl (tyL cI cZ cS cJ) s) (hP : va_P D vwCl ws H) (hD : va_D (fun q => s.heap.size ≤ q) ws) (hN : NW s) (hXW : XW s.heap.size s) (hNC : NC s) (hS : va_S (fun q => s.heap.size ≤ q) s.heap H locs) (is : List Nat) (hs : is.map (fun i => ws[i]?) = wc.map some) (nd : va_nd is = true) : PreS s H (va_Pc As (pL D cI cZ cS cJ wc s.heap.size H.size)) As :=
  ⟨pL_blind, fun U hU hW => ⟨rfl, ⟨by rw [hU], by rw [hU]; exact P_map hP is hs, va_K.moved hW.alike hK, hD.sub is nd hs, NW.moved hW hN, hS.1, XW_mv hXW (fun a h1 h2 => hS.2.1 a h1 h2) hU hW⟩, fun q hq => va_Nc.moved hW.alike (hNC q hq)⟩⟩
theorem an_ks {ks : List Int32} {c r b : Int32} {M' : Pic} (h : an ks c r b M') : c = 0 ∨ ∃ i : Nat, ks[i]? = some c := by
  rcases h with h | ⟨i, h, -⟩
  · exact Or.inl h.1
  · exact Or.inr ⟨i, h⟩
theorem an_wrp {ks : List Int32} {c r k b : Int32} {o : Int64} {M' : Pic} (hl : ks.length ≤ 3) (h0 : ∀ i, i < 3 → ¬ ks[i]? = some 0) (nd : ∀ i, i < 3 → ∀ j, j < 3 → ks[i]? = ks[j]? → ks[i]? = none ∨ i = j) (h1 : wrp ks c r k o) (h2 : an ks c r b M') : k = M' 7 0 ∧ (k = 0 → o = b.toInt64) := by
  have lt : ∀ {i : Nat} {x : Int32}, ks[i]? = some x → i < 3 := fun {i x} h => by
    rcases Nat.lt_or_ge i 3 with q | q
    · exact q
    · rw [List.getElem?_eq_none (Nat.le_trans hl q)] at h
      cases h
  rcases h1 with ⟨a1, a2, a3⟩ | ⟨i, a1, a2⟩
  · rcases h2 with ⟨b1, b2, b3⟩ | ⟨j, b1, b2⟩
    · exact ⟨a2.trans b2.symm, fun _ => by rw [a3, b3]⟩
    · rw [a1] at b1
      exact absurd b1 (h0 j (lt b1))
  · rcases h2 with ⟨b1, b2, b3⟩ | ⟨j, b1, b2⟩
    · rw [b1] at a1
      exact absurd a1 (h0 i (lt a1))
    · have li := lt a1
      have lj := lt b1
      have e : i = j := by
        rcases nd i li j lj (a1.trans b1.symm) with q | q
        · rw [q] at a1
          cases a1
        · exact q
      subst e
      refine ⟨a2.trans b2.symm, fun q => ?_⟩
      rw [a2] at q
      have hz : i = 0 ∨ i = 1 ∨ i = 2 := by omega
      rcases hz with rfl | rfl | rfl
      · exact absurd q (by decide)
      · exact absurd q (by decide)
      · exact absurd q (by decide)
theorem lg_cmp_self (x : Int64) : lg_cmp x x = 0 := by
  unfold lg_cmp
  rw [if_neg (by rw [GT.gt, Int64.lt_iff_toInt_lt]; omega), if_pos rfl]
theorem law_rd {p : Program} {l : Launch} {e : Env} {R : Room} {s : State} {m : MethodId} {args : Array Value} {below : List Frame} {meth : Method} {c : Code} {H : Heap} {locs : List Loc} {cells slots : Nat} {Q : State → Prop} {pc : Nat} {ls : Array Slot} {rest : List Value} {b L : Nat} {xs : Nat → Int32} {i k : Nat} {kk : Int}
    (hx : p.tables.exec = Jvm.exec) (hb : c.code = code) (hX : va_X b L xs s s.heap) (hbl : b < s.heap.size) (hS : va_S (fun q => s.heap.size ≤ q) s.heap H locs) (hi : i + 5 ≤ L) (hL : L ≤ 2560) (hk : k < 5) (hkk : Int32.ofInt kk = nI k) (h0 : ls[0]? = some (.val (.ref b))) (h4 : ls[4]? = some (.val (.int (nI i))))
    (d0 : decode code pc = .ok (.aload_n 0, 1)) (d1 : decode code (pc + 1) = .ok (.iload 4, 2)) (d3 : decode code (pc + 3) = .ok (.iconst kk, 1)) (d4 : decode code (pc + 4) = .ok (.iadd, 1)) (d5 : decode code (pc + 5) = .ok (.iaload, 1))
    (kx : W p l e R s m args below meth c H locs cells slots Q (F0 m (pc + 6) ls (.int (xs (i + k)) :: rest))) : W p l e R s m args below meth c H locs cells slots Q (F0 m pc ls rest) := by
  refine lv_aload_n hx hb d0 rfl h0 ?_
  refine lv_iload hx hb d1 h4 ?_
  refine lv_iconst hx hb d3 hkk ?_
  refine lv_iadd hx hb d4 ?_
  rw [nI_add]
  refine va_sld hx hb hX hbl (Nat.not_le.mpr hbl) hS (nI_in (by omega) (by omega)) d5 ?_
  rw [nI_clamp (by omega)]
  exact kx
