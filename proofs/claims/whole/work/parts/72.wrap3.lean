abbrev rm_L_undo : Room := { frames := 7, cells := 1, slots := 6, locals := 112 }
abbrev q_L_undo (dC : Nat → ClassId) (dI : Nat → Nat → Nat) (cI cZ cS cJ : ClassId) (aF aN aT aL aO aH : Nat → Nat) (ah : Nat → Nat → Nat) (aP aX : Nat → Nat) (ao : Nat) (S : Pic) (G : Pic) (Z : (Nat → Pic)) (res : Int32 × Int32 × Pic × Pic) (A : Nat → Prop) : Array Value → State → Outcome → State → Prop := va_Qi (fun (k : Int32) (u : (Pic × Pic) × (Nat → Int64)) => ∃ c r : Int32, (c, r, u.1) = res ∧ wrp [3] c r k (u.2 0)) (fun u t => va_P (dC, dI) vwCl ((wFm aF aN aT aL aO aH aP aX ++ (wSt cI aN u.1.1 ++ (wHi cS aH ah u.1.2 ++ (wZs cI ah Z)))) ++ wOt cJ ao u.2) t.heap) A
set_option maxHeartbeats 4000000 in
set_option maxRecDepth 100000 in
theorem met_L_undo (l : Launch) (hfl : l.stackTraces = false) (dC : Nat → ClassId) (dI : Nat → Nat → Nat) (cI cZ cS cJ : ClassId) (aF aN aT aL aO aH : Nat → Nat) (ah : Nat → Nat → Nat) (aP aX : Nat → Nat) (ao : Nat) (f : Nat → Int64) (S : Pic) (G : Pic) (Z : (Nat → Pic)) (base sz : Nat)  (res : Int32 × Int32 × Pic × Pic) (hR : f6_undo S G Z = res) (hks : ∀ c r, (∃ u, (c, r, u) = res) → c = 0 ∨ ∃ i : Nat, ([3] : List Int32)[i]? = some c) : Met l yL_undo wsL_undo rm_L_undo (va_Pc [.ref (aF 0), .ref ao] (pL (dC, dI) cI cZ cS cJ ((wFm aF aN aT aL aO aH aP aX ++ (wSt cI aN S ++ (wHi cS aH ah G ++ (wZs cI ah Z)))) ++ wOt cJ ao f) base sz)) (q_L_undo dC dI cI cZ cS cJ aF aN aT aL aO aH ah aP aX ao S G Z res (va_A ((wFm aF aN aT aL aO aH aP aX ++ (wSt cI aN S ++ (wHi cS aH ah G ++ (wZs cI ah Z)))) ++ wOt cJ ao f) sz)) 1 6 (va_A ((wFm aF aN aT aL aO aH aP aX ++ (wSt cI aN S ++ (wHi cS aH ah G ++ (wZs cI ah Z)))) ++ wOt cJ ao f) sz) := by
  refine met_ofWH (cc := cL_undo) (maxL := 3) (ret := some .int) (hh := [(0, 8, 11, 15)]) (by decide) rfl ?_
  intro p e s m args below meth c s₁ B hml hv
  obtain ⟨rfl, ⟨hsz, hP, hK, hD0, hN, hbs, hXW⟩, hNC⟩ := hv
  have hx := B.exec
  have hb := B.bytes
  have hr := B.returns
  have hts := atoms_spec (ws := wsL_undo) B.pre
  have hown : s.vm.findClass RL = some m.cls := findClass_of_methodNamed B.named
  have hlocks := B.notSynchronized
  have htab := vx_table (x := yL_undo) B (hts _ List.mem_cons_self)
  subst hsz
  have hD := hD0.self (sz := s.heap.size)
  generalize hAe : va_A ((wFm aF aN aT aL aO aH aP aX ++ (wSt cI aN S ++ (wHi cS aH ah G ++ (wZs cI ah Z)))) ++ wOt cJ ao f) s.heap.size = A at hD ⊢
  have hA : ∀ q : Nat, s.heap.size ≤ q → A q := fun q h => by rw [← hAe]; exact Or.inr h
  have hS : va_S A s.heap s.heap [] := va_S.rf
  have hP : va_P (dC, dI) vwCl ((wFm aF aN aT aL aO aH aP aX ++ (wSt cI aN S ++ (wHi cS aH ah G ++ (wZs cI ah Z)))) ++ wOt cJ ao f) s.heap := hP
  have hK3 := hK.sub (tys' := tyS cI cZ cS) [0, 1, 2] rfl
  have hl := lv_entry ([.ref (aF 0), .ref ao]) (n := 3) (Nat.le_of_ble_eq_true rfl)
  rw [lg_entry_eq]
  generalize (lg_sl ([.ref (aF 0), .ref ao]) ++ List.replicate (3 - (lg_sl ([.ref (aF 0), .ref ao])).length) Slot.unset).toArray = ls at hl ⊢
  have hl : lv_has ls 3 [(0, .ref (aF 0)), (1, .ref ao)] := hl
  refine lv_aload_n hx hb dL_undo_0 rfl (lv_at hl 1 rfl) ?_
  refine lv_iconst (v := (0 : Int32)) hx hb dL_undo_1 (by decide) ?_
  refine lv_aload_n hx hb dL_undo_2 rfl (lv_at hl 0 rfl) ?_
  have hF := va_free (wc := wFm aF aN aT aL aO aH aP aX ++ (wSt cI aN S ++ (wHi cS aH ah G ++ (wZs cI ah Z)))) hD hS hA [0, 1, 2, 3, 4, 5, 6, 7, 8, 9, 10, 11, 12, 13, 14, 15, 16, 17, 18, 19, 20, 21, 22, 23, 24, 25, 26, 27, 28, 29, 30, 31, 32, 33, 34, 35, 36, 37, 38, 39, 40, 41, 42, 43, 44, 45, 46, 47, 48, 49, 50, 51, 52, 53, 54, 55, 56, 57, 58, 59, 60, 61, 62, 63, 64, 65, 66, 67, 68, 69, 70, 71, 72, 73, 74, 75, 76, 77, 78, 79] rfl
  subst hR
  refine vx_calli (vx_runV (As := []) (rest := [.int (0 : Int32), .ref ao]) ⟨hx, hb, hml, hown, hts⟩ (met_X6_undo l hfl dC dI cI cZ cS aF aN aT aL aO aH ah aP aX S G Z base s.heap.size) (cwV 0 hts gL_undo_X6_undo rfl rfl rfl (by decide +kernel) ⟨Nat.le_of_ble_eq_true rfl, Nat.le_of_ble_eq_true rfl⟩) (pXV (wc := wFm aF aN aT aL aO aH aP aX ++ (wSt cI aN S ++ (wHi cS aH ah G ++ (wZs cI ah Z)))) (ci := 6) (q0 := 0) hK3 hP hD0 hN hbs hXW [0, 1, 2, 3, 4, 5, 6, 7, 8, 9, 10, 11, 12, 13, 14, 15, 16, 17, 18, 19, 20, 21, 22, 23, 24, 25, 26, 27, 28, 29, 30, 31, 32, 33, 34, 35, 36, 37, 38, 39, 40, 41, 42, 43, 44, 45, 46, 47, 48, 49, 50, 51, 52, 53, 54, 55, 56, 57, 58, 59, 60, 61, 62, 63, 64, 65, 66, 67, 68, 69, 70, 71, 72, 73, 74, 75, 76, 77, 78, 79] rfl (by decide) rfl rfl) rfl rfl hl.1 rfl (lv_room (Nat.le_of_ble_eq_true rfl)) dL_undo_3 ⟨Nat.le_of_ble_eq_true rfl, Nat.le_of_ble_eq_true rfl⟩) hS (fun q _ h => hF q h) hF (fun q _ h => hF q h) (fun E ce q9 u t H1 locs ht hvm hpx hB hz1 hk1 hS hce hcv hcl => ?_) (fun r u t H1 locs ht hvm hw hB hz1 hk1 hS => ?_)
  · obtain ⟨c, hE, hc0, hres, hB⟩ := hB
    rw [ht] at hB
    have hP := wrk2 (w2 := (wFm aF aN aT aL aO aH aP aX ++ (wSt cI aN u.1 ++ (wHi cS aH ah u.2 ++ (wZs cI ah Z)))) ++ wOt cJ ao f) (wr := wOt cJ ao f) hP hD [0, 1, 2, 3, 4, 5, 6, 7, 8, 9, 10, 11, 12, 13, 14, 15, 16, 17, 18, 19, 20, 21, 22, 23, 24, 25, 26, 27, 28, 29, 30, 31, 32, 33, 34, 35, 36, 37, 38, 39, 40, 41, 42, 43, 44, 45, 46, 47, 48, 49, 50, 51, 52, 53, 54, 55, 56, 57, 58, 59, 60, 61, 62, 63, 64, 65, 66, 67, 68, 69, 70, 71, 72, 73, 74, 75, 76, 77, 78, 79] [80] rfl rfl (by decide) hk1 hB [1, 2, 3, 4, 5, 6, 7, 8, 9, 10, 11, 12, 13, 14, 15, 16, 17, 18, 19, 20, 21, 22, 23, 24, 25, 26, 27, 28, 29, 30, 31, 32, 33, 34, 35, 36, 37, 38, 39, 40, 41, 42, 43, 44, 45, 46, 47, 48, 49, 50, 51, 52, 53, 54, 55, 56, 57, 58, 59, 60, 61, 62, 63, 64, 65, 66, 67, 68, 69, 70, 71, 72, 73, 74, 75, 76, 77, 78, 79, 80, 0] rfl
    have hD := D_addr (w1 := (wFm aF aN aT aL aO aH aP aX ++ (wSt cI aN u.1 ++ (wHi cS aH ah u.2 ++ (wZs cI ah Z)))) ++ wOt cJ ao f) hD rfl
    have hres2 := hres
    have hcs := hks c 0 ⟨u, hres⟩
    rcases hcs with hcs | ⟨i, hi⟩
    · exact absurd hcs hc0
    have hil : i < 1 := by
      rcases Nat.lt_or_ge i 1 with q | q
      · exact q
      · rw [List.getElem?_eq_none (by simpa using q)] at hi; cases hi
    have hik : i = 0 := by omega
    rcases hik with rfl
    · have hc : c = 3 := (Option.some.inj hi).symm
      have hE : E = "java/lang/IllegalStateException" := hE.symm.trans (by rw [hc]; rfl)
      subst hE
      refine vx_catch (name := "java/lang/IllegalStateException") hown [] ⟨0, 8, 11, 15⟩ [] (htab.trans rfl) (fun z hz => by cases hz) (by decide) (by decide) (hts (.classLink RL 15 "java/lang/IllegalStateException") (by decide +kernel)) ((hXW.2.2.2.1 "java/lang/IllegalStateException" (by decide)).use rfl) hce hcv hcl ?_
      refine lv_astore_n (lv' := [(2, .ref q9), (0, .ref (aF 0)), (1, .ref ao)]) hx hb dL_undo_11 rfl hl (by decide) rfl (fun ls hl => ?_)
      refine lv_iconst (v := (1 : Int32)) hx hb dL_undo_12 (by decide) ?_
      exact W.widen (k := 1) (n := 6) (Nat.le_of_ble_eq_true rfl) (Nat.le_of_ble_eq_true rfl) (W.iret (v := (1 : Int32)) hx hb hr (fun t ht hW => ⟨⟨(1 : Int32), (u, f), rfl, ⟨c, 0, hres, Or.inr ⟨0, hi, rfl⟩⟩, P_at ht hP⟩, hS.F ht⟩) hS.2.2 dL_undo_13)
  · rw [ht] at hB
    have hP := wrk2 (w2 := (wFm aF aN aT aL aO aH aP aX ++ (wSt cI aN u.1 ++ (wHi cS aH ah u.2 ++ (wZs cI ah Z)))) ++ wOt cJ ao f) (wr := wOt cJ ao f) hP hD [0, 1, 2, 3, 4, 5, 6, 7, 8, 9, 10, 11, 12, 13, 14, 15, 16, 17, 18, 19, 20, 21, 22, 23, 24, 25, 26, 27, 28, 29, 30, 31, 32, 33, 34, 35, 36, 37, 38, 39, 40, 41, 42, 43, 44, 45, 46, 47, 48, 49, 50, 51, 52, 53, 54, 55, 56, 57, 58, 59, 60, 61, 62, 63, 64, 65, 66, 67, 68, 69, 70, 71, 72, 73, 74, 75, 76, 77, 78, 79] [80] rfl rfl (by decide) hk1 hB [1, 2, 3, 4, 5, 6, 7, 8, 9, 10, 11, 12, 13, 14, 15, 16, 17, 18, 19, 20, 21, 22, 23, 24, 25, 26, 27, 28, 29, 30, 31, 32, 33, 34, 35, 36, 37, 38, 39, 40, 41, 42, 43, 44, 45, 46, 47, 48, 49, 50, 51, 52, 53, 54, 55, 56, 57, 58, 59, 60, 61, 62, 63, 64, 65, 66, 67, 68, 69, 70, 71, 72, 73, 74, 75, 76, 77, 78, 79, 80, 0] rfl
    have hD := D_addr (w1 := (wFm aF aN aT aL aO aH aP aX ++ (wSt cI aN u.1 ++ (wHi cS aH ah u.2 ++ (wZs cI ah Z)))) ++ wOt cJ ao f) hD rfl
    refine lv_i2l (v := r.toInt64) hx hb dL_undo_6 rfl ?_
    refine va_last hx hb hK hP hD hS 80 3 rfl rfl (by unfold vp_in; decide) dL_undo_7 (fun H2 locs2 hP hD hS => ?_)
    refine lv_goto (tgt := 14) hx hb dL_undo_8 (by decide) ?_
    refine lv_iconst (v := (0 : Int32)) hx hb dL_undo_14 (by decide) ?_
    have hP : va_P (dC, dI) vwCl ((wFm aF aN aT aL aO aH aP aX ++ (wSt cI aN u.1 ++ (wHi cS aH ah u.2 ++ (wZs cI ah Z)))) ++ wOt cJ ao (vp_updL f 0 r.toInt64)) H2 := hP
    exact W.widen (k := 1) (n := 6) (Nat.le_of_ble_eq_true rfl) (Nat.le_of_ble_eq_true rfl) (W.iret (v := (0 : Int32)) hx hb hr (fun t ht hW => ⟨⟨(0 : Int32), (u, vp_updL f 0 r.toInt64), rfl, ⟨0, r, hw, Or.inl ⟨rfl, rfl, rfl⟩⟩, P_at ht hP⟩, hS.F ht⟩) hS.2.2 dL_undo_15)
abbrev rm_L_planned : Room := { frames := 7, cells := 1, slots := 6, locals := 114 }
abbrev q_L_planned (dC : Nat → ClassId) (dI : Nat → Nat → Nat) (cI cZ cS cJ : ClassId) (aF aN aT aL aO aH : Nat → Nat) (ah : Nat → Nat → Nat) (aP aX : Nat → Nat) (ao : Nat) (S : Pic) (res : Int32 × Int32) (A : Nat → Prop) : Array Value → State → Outcome → State → Prop := va_Qi (fun (k : Int32) (u : (Unit) × (Nat → Int64)) => ∃ c r : Int32, (c, r) = res ∧ wrp [1] c r k (u.2 0)) (fun u t => va_P (dC, dI) vwCl ((wFm aF aN aT aL aO aH aP aX ++ (wSt cI aN S)) ++ wOt cJ ao u.2) t.heap) A
set_option maxHeartbeats 4000000 in
set_option maxRecDepth 100000 in
theorem met_L_planned (l : Launch) (hfl : l.stackTraces = false) (dC : Nat → ClassId) (dI : Nat → Nat → Nat) (cI cZ cS cJ : ClassId) (aF aN aT aL aO aH : Nat → Nat) (ah : Nat → Nat → Nat) (aP aX : Nat → Nat) (ao : Nat) (f : Nat → Int64) (S : Pic) (base sz : Nat) (p1 : Int32) (p2 : Int32) (res : Int32 × Int32) (hR : f6_planned S p1 p2 = res) (hks : ∀ c r, (∃ u, u = () ∧ (c, r) = res) → c = 0 ∨ ∃ i : Nat, ([1] : List Int32)[i]? = some c) : Met l yL_planned wsL_planned rm_L_planned (va_Pc [.ref (aF 0), .int p1, .int p2, .ref ao] (pL (dC, dI) cI cZ cS cJ ((wFm aF aN aT aL aO aH aP aX ++ (wSt cI aN S)) ++ wOt cJ ao f) base sz)) (q_L_planned dC dI cI cZ cS cJ aF aN aT aL aO aH ah aP aX ao S res (va_A ((wFm aF aN aT aL aO aH aP aX ++ (wSt cI aN S)) ++ wOt cJ ao f) sz)) 1 6 (va_A ((wFm aF aN aT aL aO aH aP aX ++ (wSt cI aN S)) ++ wOt cJ ao f) sz) := by
  refine met_ofWH (cc := cL_planned) (maxL := 5) (ret := some .int) (hh := [(0, 10, 13, 21)]) (by decide) rfl ?_
  intro p e s m args below meth c s₁ B hml hv
  obtain ⟨rfl, ⟨hsz, hP, hK, hD0, hN, hbs, hXW⟩, hNC⟩ := hv
  have hx := B.exec
  have hb := B.bytes
  have hr := B.returns
  have hts := atoms_spec (ws := wsL_planned) B.pre
  have hown : s.vm.findClass RL = some m.cls := findClass_of_methodNamed B.named
  have hlocks := B.notSynchronized
  have htab := vx_table (x := yL_planned) B (hts _ List.mem_cons_self)
  subst hsz
  have hD := hD0.self (sz := s.heap.size)
  generalize hAe : va_A ((wFm aF aN aT aL aO aH aP aX ++ (wSt cI aN S)) ++ wOt cJ ao f) s.heap.size = A at hD ⊢
  have hA : ∀ q : Nat, s.heap.size ≤ q → A q := fun q h => by rw [← hAe]; exact Or.inr h
  have hS : va_S A s.heap s.heap [] := va_S.rf
  have hP : va_P (dC, dI) vwCl ((wFm aF aN aT aL aO aH aP aX ++ (wSt cI aN S)) ++ wOt cJ ao f) s.heap := hP
  have hK3 := hK.sub (tys' := tyS cI cZ cS) [0, 1, 2] rfl
  have hl := lv_entry ([.ref (aF 0), .int p1, .int p2, .ref ao]) (n := 5) (Nat.le_of_ble_eq_true rfl)
  rw [lg_entry_eq]
  generalize (lg_sl ([.ref (aF 0), .int p1, .int p2, .ref ao]) ++ List.replicate (5 - (lg_sl ([.ref (aF 0), .int p1, .int p2, .ref ao])).length) Slot.unset).toArray = ls at hl ⊢
  have hl : lv_has ls 5 [(0, .ref (aF 0)), (1, .int p1), (2, .int p2), (3, .ref ao)] := hl
  refine lv_aload_n hx hb dL_planned_0 rfl (lv_at hl 3 rfl) ?_
  refine lv_iconst (v := (0 : Int32)) hx hb dL_planned_1 (by decide) ?_
  refine lv_aload_n hx hb dL_planned_2 rfl (lv_at hl 0 rfl) ?_
  refine lv_iload_n hx hb dL_planned_3 rfl (lv_at hl 1 rfl) ?_
  refine lv_iload_n hx hb dL_planned_4 rfl (lv_at hl 2 rfl) ?_
  subst hR
  refine vx_calli (vx_runV (As := [.int p1, .int p2]) (rest := [.int (0 : Int32), .ref ao]) ⟨hx, hb, hml, hown, hts⟩ (met_X6_planned l hfl dC dI cI cZ cS aF aN aT aL aO aH ah aP aX S base s.heap.size p1 p2) (cwV 2 hts gL_planned_X6_planned rfl rfl rfl (by decide +kernel) ⟨Nat.le_of_ble_eq_true rfl, Nat.le_of_ble_eq_true rfl⟩) (pXV (wc := wFm aF aN aT aL aO aH aP aX ++ (wSt cI aN S)) (ci := 6) (q0 := 0) hK3 hP hD0 hN hbs hXW [0, 1, 2, 3, 4, 5, 6, 7, 8, 9, 10, 11] rfl (by decide) rfl rfl) rfl rfl hl.1 rfl (lv_room (Nat.le_of_ble_eq_true rfl)) dL_planned_5 ⟨Nat.le_of_ble_eq_true rfl, Nat.le_of_ble_eq_true rfl⟩) hS (fun q _ h => (a0_in hS hA) q h) (a0_in hS hA) (fun q _ h => (a0_in hS hA) q h) (fun E ce q9 u t H1 locs ht hvm hpx hB hz1 hk1 hS hce hcv hcl => ?_) (fun r u t H1 locs ht hvm hw hB hz1 hk1 hS => ?_)
  · obtain ⟨c, hE, hc0, hres, -⟩ := hB
    have hP := rdk hP hk1
    have hres2 := hres
    have hcs := hks c 0 ⟨(), rfl, hres⟩
    rcases hcs with hcs | ⟨i, hi⟩
    · exact absurd hcs hc0
    have hil : i < 1 := by
      rcases Nat.lt_or_ge i 1 with q | q
      · exact q
      · rw [List.getElem?_eq_none (by simpa using q)] at hi; cases hi
    have hik : i = 0 := by omega
    rcases hik with rfl
    · have hc : c = 1 := (Option.some.inj hi).symm
      have hE : E = "java/lang/IndexOutOfBoundsException" := hE.symm.trans (by rw [hc]; rfl)
      subst hE
      refine vx_catch (name := "java/lang/IndexOutOfBoundsException") hown [] ⟨0, 10, 13, 21⟩ [] (htab.trans rfl) (fun z hz => by cases hz) (by decide) (by decide) (hts (.classLink RL 21 "java/lang/IndexOutOfBoundsException") (by decide +kernel)) ((hXW.2.2.2.1 "java/lang/IndexOutOfBoundsException" (by decide)).use rfl) hce hcv hcl ?_
      refine lv_astore (lv' := [(4, .ref q9), (0, .ref (aF 0)), (1, .int p1), (2, .int p2), (3, .ref ao)]) hx hb dL_planned_13 hl (by decide) rfl (fun ls hl => ?_)
      refine lv_iconst (v := (1 : Int32)) hx hb dL_planned_15 (by decide) ?_
      exact W.widen (k := 1) (n := 6) (Nat.le_of_ble_eq_true rfl) (Nat.le_of_ble_eq_true rfl) (W.iret (v := (1 : Int32)) hx hb hr (fun t ht hW => ⟨⟨(1 : Int32), ((), f), rfl, ⟨c, 0, hres, Or.inr ⟨0, hi, rfl⟩⟩, P_at ht hP⟩, hS.F ht⟩) hS.2.2 dL_planned_16)
  · clear hB
    have hP := rdk hP hk1
    refine lv_i2l (v := r.toInt64) hx hb dL_planned_8 rfl ?_
    refine va_last hx hb hK hP hD hS 12 3 rfl rfl (by unfold vp_in; decide) dL_planned_9 (fun H2 locs2 hP hD hS => ?_)
    refine lv_goto (tgt := 17) hx hb dL_planned_10 (by decide) ?_
    refine lv_iconst (v := (0 : Int32)) hx hb dL_planned_17 (by decide) ?_
    have hP : va_P (dC, dI) vwCl ((wFm aF aN aT aL aO aH aP aX ++ (wSt cI aN S)) ++ wOt cJ ao (vp_updL f 0 r.toInt64)) H2 := hP
    exact W.widen (k := 1) (n := 6) (Nat.le_of_ble_eq_true rfl) (Nat.le_of_ble_eq_true rfl) (W.iret (v := (0 : Int32)) hx hb hr (fun t ht hW => ⟨⟨(0 : Int32), ((), vp_updL f 0 r.toInt64), rfl, ⟨0, r, hw, Or.inl ⟨rfl, rfl, rfl⟩⟩, P_at ht hP⟩, hS.F ht⟩) hS.2.2 dL_planned_18)
abbrev rm_L_dish : Room := { frames := 7, cells := 1, slots := 6, locals := 169 }
abbrev q_L_dish (dC : Nat → ClassId) (dI : Nat → Nat → Nat) (cI cZ cS cJ : ClassId) (aF aN aT aL aO aH : Nat → Nat) (ah : Nat → Nat → Nat) (aP aX : Nat → Nat) (ao : Nat) (S : Pic) (Y : Pic) (res : Int32 × Int32 × Pic) (A : Nat → Prop) : Array Value → State → Outcome → State → Prop := va_Qi (fun (k : Int32) (u : (Pic) × (Nat → Int64)) => ∃ c r : Int32, (c, r, u.1) = res ∧ wrp [1, 2] c r k (u.2 0)) (fun u t => va_P (dC, dI) vwCl ((wFm aF aN aT aL aO aH aP aX ++ (wSt cI aN S ++ (wLo cI aL u.1))) ++ wOt cJ ao u.2) t.heap) A
set_option maxHeartbeats 4000000 in
set_option maxRecDepth 100000 in
theorem met_L_dish (l : Launch) (hfl : l.stackTraces = false) (dC : Nat → ClassId) (dI : Nat → Nat → Nat) (cI cZ cS cJ : ClassId) (aF aN aT aL aO aH : Nat → Nat) (ah : Nat → Nat → Nat) (aP aX : Nat → Nat) (ao : Nat) (f : Nat → Int64) (S : Pic) (Y : Pic) (base sz : Nat) (p1 : Int32) (p2 : Int32) (res : Int32 × Int32 × Pic) (hR : f6_dish S Y p1 p2 = res) (hks : ∀ c r, (∃ u, (c, r, u) = res) → c = 0 ∨ ∃ i : Nat, ([1, 2] : List Int32)[i]? = some c) : Met l yL_dish wsL_dish rm_L_dish (va_Pc [.ref (aF 0), .int p1, .int p2, .ref ao] (pL (dC, dI) cI cZ cS cJ ((wFm aF aN aT aL aO aH aP aX ++ (wSt cI aN S ++ (wLo cI aL Y))) ++ wOt cJ ao f) base sz)) (q_L_dish dC dI cI cZ cS cJ aF aN aT aL aO aH ah aP aX ao S Y res (va_A ((wFm aF aN aT aL aO aH aP aX ++ (wSt cI aN S ++ (wLo cI aL Y))) ++ wOt cJ ao f) sz)) 1 6 (va_A ((wFm aF aN aT aL aO aH aP aX ++ (wSt cI aN S ++ (wLo cI aL Y))) ++ wOt cJ ao f) sz) := by
  refine met_ofWH (cc := cL_dish) (maxL := 5) (ret := some .int) (hh := [(0, 10, 13, 21), (0, 10, 17, 13)]) (by decide) rfl ?_
  intro p e s m args below meth c s₁ B hml hv
  obtain ⟨rfl, ⟨hsz, hP, hK, hD0, hN, hbs, hXW⟩, hNC⟩ := hv
  have hx := B.exec
  have hb := B.bytes
  have hr := B.returns
  have hts := atoms_spec (ws := wsL_dish) B.pre
  have hown : s.vm.findClass RL = some m.cls := findClass_of_methodNamed B.named
  have hlocks := B.notSynchronized
  have htab := vx_table (x := yL_dish) B (hts _ List.mem_cons_self)
  subst hsz
  have hD := hD0.self (sz := s.heap.size)
  generalize hAe : va_A ((wFm aF aN aT aL aO aH aP aX ++ (wSt cI aN S ++ (wLo cI aL Y))) ++ wOt cJ ao f) s.heap.size = A at hD ⊢
  have hA : ∀ q : Nat, s.heap.size ≤ q → A q := fun q h => by rw [← hAe]; exact Or.inr h
  have hS : va_S A s.heap s.heap [] := va_S.rf
  have hP : va_P (dC, dI) vwCl ((wFm aF aN aT aL aO aH aP aX ++ (wSt cI aN S ++ (wLo cI aL Y))) ++ wOt cJ ao f) s.heap := hP
  have hK3 := hK.sub (tys' := tyS cI cZ cS) [0, 1, 2] rfl
  have hl := lv_entry ([.ref (aF 0), .int p1, .int p2, .ref ao]) (n := 5) (Nat.le_of_ble_eq_true rfl)
  rw [lg_entry_eq]
  generalize (lg_sl ([.ref (aF 0), .int p1, .int p2, .ref ao]) ++ List.replicate (5 - (lg_sl ([.ref (aF 0), .int p1, .int p2, .ref ao])).length) Slot.unset).toArray = ls at hl ⊢
  have hl : lv_has ls 5 [(0, .ref (aF 0)), (1, .int p1), (2, .int p2), (3, .ref ao)] := hl
  refine lv_aload_n hx hb dL_dish_0 rfl (lv_at hl 3 rfl) ?_
  refine lv_iconst (v := (0 : Int32)) hx hb dL_dish_1 (by decide) ?_
  refine lv_aload_n hx hb dL_dish_2 rfl (lv_at hl 0 rfl) ?_
  refine lv_iload_n hx hb dL_dish_3 rfl (lv_at hl 1 rfl) ?_
  refine lv_iload_n hx hb dL_dish_4 rfl (lv_at hl 2 rfl) ?_
  have hF := va_free (wc := wFm aF aN aT aL aO aH aP aX ++ (wSt cI aN S ++ (wLo cI aL Y))) hD hS hA [0, 1, 2, 3, 4, 5, 6, 7, 8, 9, 10, 11, 12, 13, 14] rfl
  subst hR
  refine vx_calli (vx_runV (As := [.int p1, .int p2]) (rest := [.int (0 : Int32), .ref ao]) ⟨hx, hb, hml, hown, hts⟩ (met_X6_dish l hfl dC dI cI cZ cS aF aN aT aL aO aH ah aP aX S Y base s.heap.size p1 p2) (cwV 2 hts gL_dish_X6_dish rfl rfl rfl (by decide +kernel) ⟨Nat.le_of_ble_eq_true rfl, Nat.le_of_ble_eq_true rfl⟩) (pXV (wc := wFm aF aN aT aL aO aH aP aX ++ (wSt cI aN S ++ (wLo cI aL Y))) (ci := 6) (q0 := 0) hK3 hP hD0 hN hbs hXW [0, 1, 2, 3, 4, 5, 6, 7, 8, 9, 10, 11, 12, 13, 14] rfl (by decide) rfl rfl) rfl rfl hl.1 rfl (lv_room (Nat.le_of_ble_eq_true rfl)) dL_dish_5 ⟨Nat.le_of_ble_eq_true rfl, Nat.le_of_ble_eq_true rfl⟩) hS (fun q _ h => hF q h) hF (fun q _ h => hF q h) (fun E ce q9 u t H1 locs ht hvm hpx hB hz1 hk1 hS hce hcv hcl => ?_) (fun r u t H1 locs ht hvm hw hB hz1 hk1 hS => ?_)
  · obtain ⟨c, hE, hc0, hres, hB⟩ := hB
    rw [ht] at hB
    have hP := wrk2 (w2 := (wFm aF aN aT aL aO aH aP aX ++ (wSt cI aN S ++ (wLo cI aL u))) ++ wOt cJ ao f) (wr := wOt cJ ao f) hP hD [0, 1, 2, 3, 4, 5, 6, 7, 8, 9, 10, 11, 12, 13, 14] [15] rfl rfl (by decide) hk1 hB [1, 2, 3, 4, 5, 6, 7, 8, 9, 10, 11, 12, 13, 14, 15, 0] rfl
    have hD := D_addr (w1 := (wFm aF aN aT aL aO aH aP aX ++ (wSt cI aN S ++ (wLo cI aL u))) ++ wOt cJ ao f) hD rfl
    have hres2 := hres
    have hcs := hks c 0 ⟨u, hres⟩
    rcases hcs with hcs | ⟨i, hi⟩
    · exact absurd hcs hc0
    have hil : i < 2 := by
      rcases Nat.lt_or_ge i 2 with q | q
      · exact q
      · rw [List.getElem?_eq_none (by simpa using q)] at hi; cases hi
    have hik : i = 0 ∨ i = 1 := by omega
    rcases hik with rfl | rfl
    · have hc : c = 1 := (Option.some.inj hi).symm
      have hE : E = "java/lang/IndexOutOfBoundsException" := hE.symm.trans (by rw [hc]; rfl)
      subst hE
      refine vx_catch (name := "java/lang/IndexOutOfBoundsException") hown [] ⟨0, 10, 13, 21⟩ [⟨0, 10, 17, 13⟩] (htab.trans rfl) (fun z hz => by cases hz) (by decide) (by decide) (hts (.classLink RL 21 "java/lang/IndexOutOfBoundsException") (by decide +kernel)) ((hXW.2.2.2.1 "java/lang/IndexOutOfBoundsException" (by decide)).use rfl) hce hcv hcl ?_
      refine lv_astore (lv' := [(4, .ref q9), (0, .ref (aF 0)), (1, .int p1), (2, .int p2), (3, .ref ao)]) hx hb dL_dish_13 hl (by decide) rfl (fun ls hl => ?_)
      refine lv_iconst (v := (1 : Int32)) hx hb dL_dish_15 (by decide) ?_
      exact W.widen (k := 1) (n := 6) (Nat.le_of_ble_eq_true rfl) (Nat.le_of_ble_eq_true rfl) (W.iret (v := (1 : Int32)) hx hb hr (fun t ht hW => ⟨⟨(1 : Int32), (u, f), rfl, ⟨c, 0, hres, Or.inr ⟨0, hi, rfl⟩⟩, P_at ht hP⟩, hS.F ht⟩) hS.2.2 dL_dish_16)
    · have hc : c = 2 := (Option.some.inj hi).symm
      have hE : E = "java/lang/IllegalArgumentException" := hE.symm.trans (by rw [hc]; rfl)
      subst hE
      refine vx_catch (name := "java/lang/IllegalArgumentException") hown [⟨0, 10, 13, 21⟩] ⟨0, 10, 17, 13⟩ [] (htab.trans rfl) (List.forall_mem_cons.mpr ⟨Or.inr ⟨by decide, "java/lang/IndexOutOfBoundsException", (hts (.classLink RL 21 "java/lang/IndexOutOfBoundsException") (by decide +kernel)), hNC ("java/lang/IllegalArgumentException", "java/lang/IndexOutOfBoundsException") (by decide)⟩, (fun z hz => by cases hz)⟩) (by decide) (by decide) (hts (.classLink RL 13 "java/lang/IllegalArgumentException") (by decide +kernel)) ((hXW.2.2.2.1 "java/lang/IllegalArgumentException" (by decide)).use rfl) hce hcv hcl ?_
      refine lv_astore (lv' := [(4, .ref q9), (0, .ref (aF 0)), (1, .int p1), (2, .int p2), (3, .ref ao)]) hx hb dL_dish_17 hl (by decide) rfl (fun ls hl => ?_)
      refine lv_iconst (v := (2 : Int32)) hx hb dL_dish_19 (by decide) ?_
      exact W.widen (k := 1) (n := 6) (Nat.le_of_ble_eq_true rfl) (Nat.le_of_ble_eq_true rfl) (W.iret (v := (2 : Int32)) hx hb hr (fun t ht hW => ⟨⟨(2 : Int32), (u, f), rfl, ⟨c, 0, hres, Or.inr ⟨1, hi, rfl⟩⟩, P_at ht hP⟩, hS.F ht⟩) hS.2.2 dL_dish_20)
  · rw [ht] at hB
    have hP := wrk2 (w2 := (wFm aF aN aT aL aO aH aP aX ++ (wSt cI aN S ++ (wLo cI aL u))) ++ wOt cJ ao f) (wr := wOt cJ ao f) hP hD [0, 1, 2, 3, 4, 5, 6, 7, 8, 9, 10, 11, 12, 13, 14] [15] rfl rfl (by decide) hk1 hB [1, 2, 3, 4, 5, 6, 7, 8, 9, 10, 11, 12, 13, 14, 15, 0] rfl
    have hD := D_addr (w1 := (wFm aF aN aT aL aO aH aP aX ++ (wSt cI aN S ++ (wLo cI aL u))) ++ wOt cJ ao f) hD rfl
    refine lv_i2l (v := r.toInt64) hx hb dL_dish_8 rfl ?_
    refine va_last hx hb hK hP hD hS 15 3 rfl rfl (by unfold vp_in; decide) dL_dish_9 (fun H2 locs2 hP hD hS => ?_)
    refine lv_goto (tgt := 21) hx hb dL_dish_10 (by decide) ?_
    refine lv_iconst (v := (0 : Int32)) hx hb dL_dish_21 (by decide) ?_
    have hP : va_P (dC, dI) vwCl ((wFm aF aN aT aL aO aH aP aX ++ (wSt cI aN S ++ (wLo cI aL u))) ++ wOt cJ ao (vp_updL f 0 r.toInt64)) H2 := hP
    exact W.widen (k := 1) (n := 6) (Nat.le_of_ble_eq_true rfl) (Nat.le_of_ble_eq_true rfl) (W.iret (v := (0 : Int32)) hx hb hr (fun t ht hW => ⟨⟨(0 : Int32), (u, vp_updL f 0 r.toInt64), rfl, ⟨0, r, hw, Or.inl ⟨rfl, rfl, rfl⟩⟩, P_at ht hP⟩, hS.F ht⟩) hS.2.2 dL_dish_22)
abbrev rm_L_guest : Room := { frames := 7, cells := 1, slots := 6, locals := 114 }
abbrev q_L_guest (dC : Nat → ClassId) (dI : Nat → Nat → Nat) (cI cZ cS cJ : ClassId) (aF aN aT aL aO aH : Nat → Nat) (ah : Nat → Nat → Nat) (aP aX : Nat → Nat) (ao : Nat) (S : Pic) (res : Int32 × Int32) (A : Nat → Prop) : Array Value → State → Outcome → State → Prop := va_Qi (fun (k : Int32) (u : (Unit) × (Nat → Int64)) => ∃ c r : Int32, (c, r) = res ∧ wrp [1, 2] c r k (u.2 0)) (fun u t => va_P (dC, dI) vwCl ((wFm aF aN aT aL aO aH aP aX ++ (wSt cI aN S)) ++ wOt cJ ao u.2) t.heap) A
set_option maxHeartbeats 4000000 in
set_option maxRecDepth 100000 in
theorem met_L_guest (l : Launch) (hfl : l.stackTraces = false) (dC : Nat → ClassId) (dI : Nat → Nat → Nat) (cI cZ cS cJ : ClassId) (aF aN aT aL aO aH : Nat → Nat) (ah : Nat → Nat → Nat) (aP aX : Nat → Nat) (ao : Nat) (f : Nat → Int64) (S : Pic) (base sz : Nat) (p1 : Int32) (p2 : Int32) (res : Int32 × Int32) (hR : f6_guest S p1 p2 = res) (hks : ∀ c r, (∃ u, u = () ∧ (c, r) = res) → c = 0 ∨ ∃ i : Nat, ([1, 2] : List Int32)[i]? = some c) : Met l yL_guest wsL_guest rm_L_guest (va_Pc [.ref (aF 0), .int p1, .int p2, .ref ao] (pL (dC, dI) cI cZ cS cJ ((wFm aF aN aT aL aO aH aP aX ++ (wSt cI aN S)) ++ wOt cJ ao f) base sz)) (q_L_guest dC dI cI cZ cS cJ aF aN aT aL aO aH ah aP aX ao S res (va_A ((wFm aF aN aT aL aO aH aP aX ++ (wSt cI aN S)) ++ wOt cJ ao f) sz)) 1 6 (va_A ((wFm aF aN aT aL aO aH aP aX ++ (wSt cI aN S)) ++ wOt cJ ao f) sz) := by
  refine met_ofWH (cc := cL_guest) (maxL := 5) (ret := some .int) (hh := [(0, 10, 13, 21), (0, 10, 17, 13)]) (by decide) rfl ?_
  intro p e s m args below meth c s₁ B hml hv
  obtain ⟨rfl, ⟨hsz, hP, hK, hD0, hN, hbs, hXW⟩, hNC⟩ := hv
  have hx := B.exec
  have hb := B.bytes
  have hr := B.returns
  have hts := atoms_spec (ws := wsL_guest) B.pre
  have hown : s.vm.findClass RL = some m.cls := findClass_of_methodNamed B.named
  have hlocks := B.notSynchronized
  have htab := vx_table (x := yL_guest) B (hts _ List.mem_cons_self)
  subst hsz
  have hD := hD0.self (sz := s.heap.size)
  generalize hAe : va_A ((wFm aF aN aT aL aO aH aP aX ++ (wSt cI aN S)) ++ wOt cJ ao f) s.heap.size = A at hD ⊢
  have hA : ∀ q : Nat, s.heap.size ≤ q → A q := fun q h => by rw [← hAe]; exact Or.inr h
  have hS : va_S A s.heap s.heap [] := va_S.rf
  have hP : va_P (dC, dI) vwCl ((wFm aF aN aT aL aO aH aP aX ++ (wSt cI aN S)) ++ wOt cJ ao f) s.heap := hP
  have hK3 := hK.sub (tys' := tyS cI cZ cS) [0, 1, 2] rfl
  have hl := lv_entry ([.ref (aF 0), .int p1, .int p2, .ref ao]) (n := 5) (Nat.le_of_ble_eq_true rfl)
  rw [lg_entry_eq]
  generalize (lg_sl ([.ref (aF 0), .int p1, .int p2, .ref ao]) ++ List.replicate (5 - (lg_sl ([.ref (aF 0), .int p1, .int p2, .ref ao])).length) Slot.unset).toArray = ls at hl ⊢
  have hl : lv_has ls 5 [(0, .ref (aF 0)), (1, .int p1), (2, .int p2), (3, .ref ao)] := hl
  refine lv_aload_n hx hb dL_guest_0 rfl (lv_at hl 3 rfl) ?_
  refine lv_iconst (v := (0 : Int32)) hx hb dL_guest_1 (by decide) ?_
  refine lv_aload_n hx hb dL_guest_2 rfl (lv_at hl 0 rfl) ?_
  refine lv_iload_n hx hb dL_guest_3 rfl (lv_at hl 1 rfl) ?_
  refine lv_iload_n hx hb dL_guest_4 rfl (lv_at hl 2 rfl) ?_
  subst hR
  refine vx_calli (vx_runV (As := [.int p1, .int p2]) (rest := [.int (0 : Int32), .ref ao]) ⟨hx, hb, hml, hown, hts⟩ (met_X6_guest l hfl dC dI cI cZ cS aF aN aT aL aO aH ah aP aX S base s.heap.size p1 p2) (cwV 2 hts gL_guest_X6_guest rfl rfl rfl (by decide +kernel) ⟨Nat.le_of_ble_eq_true rfl, Nat.le_of_ble_eq_true rfl⟩) (pXV (wc := wFm aF aN aT aL aO aH aP aX ++ (wSt cI aN S)) (ci := 6) (q0 := 0) hK3 hP hD0 hN hbs hXW [0, 1, 2, 3, 4, 5, 6, 7, 8, 9, 10, 11] rfl (by decide) rfl rfl) rfl rfl hl.1 rfl (lv_room (Nat.le_of_ble_eq_true rfl)) dL_guest_5 ⟨Nat.le_of_ble_eq_true rfl, Nat.le_of_ble_eq_true rfl⟩) hS (fun q _ h => (a0_in hS hA) q h) (a0_in hS hA) (fun q _ h => (a0_in hS hA) q h) (fun E ce q9 u t H1 locs ht hvm hpx hB hz1 hk1 hS hce hcv hcl => ?_) (fun r u t H1 locs ht hvm hw hB hz1 hk1 hS => ?_)
  · obtain ⟨c, hE, hc0, hres, -⟩ := hB
    have hP := rdk hP hk1
    have hres2 := hres
    have hcs := hks c 0 ⟨(), rfl, hres⟩
    rcases hcs with hcs | ⟨i, hi⟩
    · exact absurd hcs hc0
    have hil : i < 2 := by
      rcases Nat.lt_or_ge i 2 with q | q
      · exact q
      · rw [List.getElem?_eq_none (by simpa using q)] at hi; cases hi
    have hik : i = 0 ∨ i = 1 := by omega
    rcases hik with rfl | rfl
    · have hc : c = 1 := (Option.some.inj hi).symm
      have hE : E = "java/lang/IndexOutOfBoundsException" := hE.symm.trans (by rw [hc]; rfl)
      subst hE
      refine vx_catch (name := "java/lang/IndexOutOfBoundsException") hown [] ⟨0, 10, 13, 21⟩ [⟨0, 10, 17, 13⟩] (htab.trans rfl) (fun z hz => by cases hz) (by decide) (by decide) (hts (.classLink RL 21 "java/lang/IndexOutOfBoundsException") (by decide +kernel)) ((hXW.2.2.2.1 "java/lang/IndexOutOfBoundsException" (by decide)).use rfl) hce hcv hcl ?_
      refine lv_astore (lv' := [(4, .ref q9), (0, .ref (aF 0)), (1, .int p1), (2, .int p2), (3, .ref ao)]) hx hb dL_guest_13 hl (by decide) rfl (fun ls hl => ?_)
      refine lv_iconst (v := (1 : Int32)) hx hb dL_guest_15 (by decide) ?_
      exact W.widen (k := 1) (n := 6) (Nat.le_of_ble_eq_true rfl) (Nat.le_of_ble_eq_true rfl) (W.iret (v := (1 : Int32)) hx hb hr (fun t ht hW => ⟨⟨(1 : Int32), ((), f), rfl, ⟨c, 0, hres, Or.inr ⟨0, hi, rfl⟩⟩, P_at ht hP⟩, hS.F ht⟩) hS.2.2 dL_guest_16)
    · have hc : c = 2 := (Option.some.inj hi).symm
      have hE : E = "java/lang/IllegalArgumentException" := hE.symm.trans (by rw [hc]; rfl)
      subst hE
      refine vx_catch (name := "java/lang/IllegalArgumentException") hown [⟨0, 10, 13, 21⟩] ⟨0, 10, 17, 13⟩ [] (htab.trans rfl) (List.forall_mem_cons.mpr ⟨Or.inr ⟨by decide, "java/lang/IndexOutOfBoundsException", (hts (.classLink RL 21 "java/lang/IndexOutOfBoundsException") (by decide +kernel)), hNC ("java/lang/IllegalArgumentException", "java/lang/IndexOutOfBoundsException") (by decide)⟩, (fun z hz => by cases hz)⟩) (by decide) (by decide) (hts (.classLink RL 13 "java/lang/IllegalArgumentException") (by decide +kernel)) ((hXW.2.2.2.1 "java/lang/IllegalArgumentException" (by decide)).use rfl) hce hcv hcl ?_
      refine lv_astore (lv' := [(4, .ref q9), (0, .ref (aF 0)), (1, .int p1), (2, .int p2), (3, .ref ao)]) hx hb dL_guest_17 hl (by decide) rfl (fun ls hl => ?_)
      refine lv_iconst (v := (2 : Int32)) hx hb dL_guest_19 (by decide) ?_
      exact W.widen (k := 1) (n := 6) (Nat.le_of_ble_eq_true rfl) (Nat.le_of_ble_eq_true rfl) (W.iret (v := (2 : Int32)) hx hb hr (fun t ht hW => ⟨⟨(2 : Int32), ((), f), rfl, ⟨c, 0, hres, Or.inr ⟨1, hi, rfl⟩⟩, P_at ht hP⟩, hS.F ht⟩) hS.2.2 dL_guest_20)
  · clear hB
    have hP := rdk hP hk1
    refine lv_i2l (v := r.toInt64) hx hb dL_guest_8 rfl ?_
    refine va_last hx hb hK hP hD hS 12 3 rfl rfl (by unfold vp_in; decide) dL_guest_9 (fun H2 locs2 hP hD hS => ?_)
    refine lv_goto (tgt := 21) hx hb dL_guest_10 (by decide) ?_
    refine lv_iconst (v := (0 : Int32)) hx hb dL_guest_21 (by decide) ?_
    have hP : va_P (dC, dI) vwCl ((wFm aF aN aT aL aO aH aP aX ++ (wSt cI aN S)) ++ wOt cJ ao (vp_updL f 0 r.toInt64)) H2 := hP
    exact W.widen (k := 1) (n := 6) (Nat.le_of_ble_eq_true rfl) (Nat.le_of_ble_eq_true rfl) (W.iret (v := (0 : Int32)) hx hb hr (fun t ht hW => ⟨⟨(0 : Int32), ((), vp_updL f 0 r.toInt64), rfl, ⟨0, r, hw, Or.inl ⟨rfl, rfl, rfl⟩⟩, P_at ht hP⟩, hS.F ht⟩) hS.2.2 dL_guest_22)
abbrev rm_L_day : Room := { frames := 7, cells := 1, slots := 6, locals := 141 }
abbrev q_L_day (dC : Nat → ClassId) (dI : Nat → Nat → Nat) (cI cZ cS cJ : ClassId) (aF aN aT aL aO aH : Nat → Nat) (ah : Nat → Nat → Nat) (aP aX : Nat → Nat) (ao : Nat) (S : Pic) (Y : Pic) (res : Int32 × Int32) (A : Nat → Prop) : Array Value → State → Outcome → State → Prop := va_Qi (fun (k : Int32) (u : (Unit) × (Nat → Int64)) => ∃ c r : Int32, (c, r) = res ∧ wrp [1, 2] c r k (u.2 0)) (fun u t => va_P (dC, dI) vwCl ((wFm aF aN aT aL aO aH aP aX ++ (wSt cI aN S ++ (wLo cI aL Y ++ (wOu aO aN aL)))) ++ wOt cJ ao u.2) t.heap) A
set_option maxHeartbeats 4000000 in
set_option maxRecDepth 100000 in
theorem met_L_day (l : Launch) (hfl : l.stackTraces = false) (dC : Nat → ClassId) (dI : Nat → Nat → Nat) (cI cZ cS cJ : ClassId) (aF aN aT aL aO aH : Nat → Nat) (ah : Nat → Nat → Nat) (aP aX : Nat → Nat) (ao : Nat) (f : Nat → Int64) (S : Pic) (Y : Pic) (base sz : Nat) (p1 : Int32) (p2 : Int32) (res : Int32 × Int32) (hR : f6_day S p1 p2 = res) (hks : ∀ c r, (∃ u, u = () ∧ (c, r) = res) → c = 0 ∨ ∃ i : Nat, ([1, 2] : List Int32)[i]? = some c) : Met l yL_day wsL_day rm_L_day (va_Pc [.ref (aF 0), .int p1, .int p2, .ref ao] (pL (dC, dI) cI cZ cS cJ ((wFm aF aN aT aL aO aH aP aX ++ (wSt cI aN S ++ (wLo cI aL Y ++ (wOu aO aN aL)))) ++ wOt cJ ao f) base sz)) (q_L_day dC dI cI cZ cS cJ aF aN aT aL aO aH ah aP aX ao S Y res (va_A ((wFm aF aN aT aL aO aH aP aX ++ (wSt cI aN S ++ (wLo cI aL Y ++ (wOu aO aN aL)))) ++ wOt cJ ao f) sz)) 1 6 (va_A ((wFm aF aN aT aL aO aH aP aX ++ (wSt cI aN S ++ (wLo cI aL Y ++ (wOu aO aN aL)))) ++ wOt cJ ao f) sz) := by
  refine met_ofWH (cc := cL_day) (maxL := 5) (ret := some .int) (hh := [(0, 10, 13, 21), (0, 10, 17, 13)]) (by decide) rfl ?_
  intro p e s m args below meth c s₁ B hml hv
  obtain ⟨rfl, ⟨hsz, hP, hK, hD0, hN, hbs, hXW⟩, hNC⟩ := hv
  have hx := B.exec
  have hb := B.bytes
  have hr := B.returns
  have hts := atoms_spec (ws := wsL_day) B.pre
  have hown : s.vm.findClass RL = some m.cls := findClass_of_methodNamed B.named
  have hlocks := B.notSynchronized
  have htab := vx_table (x := yL_day) B (hts _ List.mem_cons_self)
  subst hsz
  have hD := hD0.self (sz := s.heap.size)
  generalize hAe : va_A ((wFm aF aN aT aL aO aH aP aX ++ (wSt cI aN S ++ (wLo cI aL Y ++ (wOu aO aN aL)))) ++ wOt cJ ao f) s.heap.size = A at hD ⊢
  have hA : ∀ q : Nat, s.heap.size ≤ q → A q := fun q h => by rw [← hAe]; exact Or.inr h
  have hS : va_S A s.heap s.heap [] := va_S.rf
  have hP : va_P (dC, dI) vwCl ((wFm aF aN aT aL aO aH aP aX ++ (wSt cI aN S ++ (wLo cI aL Y ++ (wOu aO aN aL)))) ++ wOt cJ ao f) s.heap := hP
  have hK3 := hK.sub (tys' := tyS cI cZ cS) [0, 1, 2] rfl
  have hl := lv_entry ([.ref (aF 0), .int p1, .int p2, .ref ao]) (n := 5) (Nat.le_of_ble_eq_true rfl)
  rw [lg_entry_eq]
  generalize (lg_sl ([.ref (aF 0), .int p1, .int p2, .ref ao]) ++ List.replicate (5 - (lg_sl ([.ref (aF 0), .int p1, .int p2, .ref ao])).length) Slot.unset).toArray = ls at hl ⊢
  have hl : lv_has ls 5 [(0, .ref (aF 0)), (1, .int p1), (2, .int p2), (3, .ref ao)] := hl
  refine lv_aload_n hx hb dL_day_0 rfl (lv_at hl 3 rfl) ?_
  refine lv_iconst (v := (0 : Int32)) hx hb dL_day_1 (by decide) ?_
  refine lv_aload_n hx hb dL_day_2 rfl (lv_at hl 0 rfl) ?_
  refine lv_iload_n hx hb dL_day_3 rfl (lv_at hl 1 rfl) ?_
  refine lv_iload_n hx hb dL_day_4 rfl (lv_at hl 2 rfl) ?_
  subst hR
  refine vx_calli (vx_runV (As := [.int p1, .int p2]) (rest := [.int (0 : Int32), .ref ao]) ⟨hx, hb, hml, hown, hts⟩ (met_X6_day l hfl dC dI cI cZ cS aF aN aT aL aO aH ah aP aX S Y base s.heap.size p1 p2) (cwV 2 hts gL_day_X6_day rfl rfl rfl (by decide +kernel) ⟨Nat.le_of_ble_eq_true rfl, Nat.le_of_ble_eq_true rfl⟩) (pXV (wc := wFm aF aN aT aL aO aH aP aX ++ (wSt cI aN S ++ (wLo cI aL Y ++ (wOu aO aN aL)))) (ci := 6) (q0 := 0) hK3 hP hD0 hN hbs hXW [0, 1, 2, 3, 4, 5, 6, 7, 8, 9, 10, 11, 12, 13, 14, 15] rfl (by decide) rfl rfl) rfl rfl hl.1 rfl (lv_room (Nat.le_of_ble_eq_true rfl)) dL_day_5 ⟨Nat.le_of_ble_eq_true rfl, Nat.le_of_ble_eq_true rfl⟩) hS (fun q _ h => (a0_in hS hA) q h) (a0_in hS hA) (fun q _ h => (a0_in hS hA) q h) (fun E ce q9 u t H1 locs ht hvm hpx hB hz1 hk1 hS hce hcv hcl => ?_) (fun r u t H1 locs ht hvm hw hB hz1 hk1 hS => ?_)
  · obtain ⟨c, hE, hc0, hres, -⟩ := hB
    have hP := rdk hP hk1
    have hres2 := hres
    have hcs := hks c 0 ⟨(), rfl, hres⟩
    rcases hcs with hcs | ⟨i, hi⟩
    · exact absurd hcs hc0
    have hil : i < 2 := by
      rcases Nat.lt_or_ge i 2 with q | q
      · exact q
      · rw [List.getElem?_eq_none (by simpa using q)] at hi; cases hi
    have hik : i = 0 ∨ i = 1 := by omega
    rcases hik with rfl | rfl
    · have hc : c = 1 := (Option.some.inj hi).symm
      have hE : E = "java/lang/IndexOutOfBoundsException" := hE.symm.trans (by rw [hc]; rfl)
      subst hE
      refine vx_catch (name := "java/lang/IndexOutOfBoundsException") hown [] ⟨0, 10, 13, 21⟩ [⟨0, 10, 17, 13⟩] (htab.trans rfl) (fun z hz => by cases hz) (by decide) (by decide) (hts (.classLink RL 21 "java/lang/IndexOutOfBoundsException") (by decide +kernel)) ((hXW.2.2.2.1 "java/lang/IndexOutOfBoundsException" (by decide)).use rfl) hce hcv hcl ?_
      refine lv_astore (lv' := [(4, .ref q9), (0, .ref (aF 0)), (1, .int p1), (2, .int p2), (3, .ref ao)]) hx hb dL_day_13 hl (by decide) rfl (fun ls hl => ?_)
      refine lv_iconst (v := (1 : Int32)) hx hb dL_day_15 (by decide) ?_
      exact W.widen (k := 1) (n := 6) (Nat.le_of_ble_eq_true rfl) (Nat.le_of_ble_eq_true rfl) (W.iret (v := (1 : Int32)) hx hb hr (fun t ht hW => ⟨⟨(1 : Int32), ((), f), rfl, ⟨c, 0, hres, Or.inr ⟨0, hi, rfl⟩⟩, P_at ht hP⟩, hS.F ht⟩) hS.2.2 dL_day_16)
    · have hc : c = 2 := (Option.some.inj hi).symm
      have hE : E = "java/lang/IllegalArgumentException" := hE.symm.trans (by rw [hc]; rfl)
      subst hE
      refine vx_catch (name := "java/lang/IllegalArgumentException") hown [⟨0, 10, 13, 21⟩] ⟨0, 10, 17, 13⟩ [] (htab.trans rfl) (List.forall_mem_cons.mpr ⟨Or.inr ⟨by decide, "java/lang/IndexOutOfBoundsException", (hts (.classLink RL 21 "java/lang/IndexOutOfBoundsException") (by decide +kernel)), hNC ("java/lang/IllegalArgumentException", "java/lang/IndexOutOfBoundsException") (by decide)⟩, (fun z hz => by cases hz)⟩) (by decide) (by decide) (hts (.classLink RL 13 "java/lang/IllegalArgumentException") (by decide +kernel)) ((hXW.2.2.2.1 "java/lang/IllegalArgumentException" (by decide)).use rfl) hce hcv hcl ?_
      refine lv_astore (lv' := [(4, .ref q9), (0, .ref (aF 0)), (1, .int p1), (2, .int p2), (3, .ref ao)]) hx hb dL_day_17 hl (by decide) rfl (fun ls hl => ?_)
      refine lv_iconst (v := (2 : Int32)) hx hb dL_day_19 (by decide) ?_
      exact W.widen (k := 1) (n := 6) (Nat.le_of_ble_eq_true rfl) (Nat.le_of_ble_eq_true rfl) (W.iret (v := (2 : Int32)) hx hb hr (fun t ht hW => ⟨⟨(2 : Int32), ((), f), rfl, ⟨c, 0, hres, Or.inr ⟨1, hi, rfl⟩⟩, P_at ht hP⟩, hS.F ht⟩) hS.2.2 dL_day_20)
  · clear hB
    have hP := rdk hP hk1
    refine lv_i2l (v := r.toInt64) hx hb dL_day_8 rfl ?_
    refine va_last hx hb hK hP hD hS 16 3 rfl rfl (by unfold vp_in; decide) dL_day_9 (fun H2 locs2 hP hD hS => ?_)
    refine lv_goto (tgt := 21) hx hb dL_day_10 (by decide) ?_
    refine lv_iconst (v := (0 : Int32)) hx hb dL_day_21 (by decide) ?_
    have hP : va_P (dC, dI) vwCl ((wFm aF aN aT aL aO aH aP aX ++ (wSt cI aN S ++ (wLo cI aL Y ++ (wOu aO aN aL)))) ++ wOt cJ ao (vp_updL f 0 r.toInt64)) H2 := hP
    exact W.widen (k := 1) (n := 6) (Nat.le_of_ble_eq_true rfl) (Nat.le_of_ble_eq_true rfl) (W.iret (v := (0 : Int32)) hx hb hr (fun t ht hW => ⟨⟨(0 : Int32), ((), vp_updL f 0 r.toInt64), rfl, ⟨0, r, hw, Or.inl ⟨rfl, rfl, rfl⟩⟩, P_at ht hP⟩, hS.F ht⟩) hS.2.2 dL_day_22)
abbrev rm_L_source : Room := { frames := 7, cells := 1, slots := 6, locals := 126 }
abbrev q_L_source (dC : Nat → ClassId) (dI : Nat → Nat → Nat) (cI cZ cS cJ : ClassId) (aF aN aT aL aO aH : Nat → Nat) (ah : Nat → Nat → Nat) (aP aX : Nat → Nat) (ao : Nat) (S : Pic) (Y : Pic) (res : Int32 × Int32 × Pic) (A : Nat → Prop) : Array Value → State → Outcome → State → Prop := va_Qi (fun (k : Int32) (u : (Pic) × (Nat → Int64)) => ∃ c r : Int32, (c, r, u.1) = res ∧ wrp [1] c r k (u.2 0)) (fun u t => va_P (dC, dI) vwCl ((wFm aF aN aT aL aO aH aP aX ++ (wSt cI aN S ++ (wLo cI aL u.1))) ++ wOt cJ ao u.2) t.heap) A
set_option maxHeartbeats 4000000 in
set_option maxRecDepth 100000 in
theorem met_L_source (l : Launch) (hfl : l.stackTraces = false) (dC : Nat → ClassId) (dI : Nat → Nat → Nat) (cI cZ cS cJ : ClassId) (aF aN aT aL aO aH : Nat → Nat) (ah : Nat → Nat → Nat) (aP aX : Nat → Nat) (ao : Nat) (f : Nat → Int64) (S : Pic) (Y : Pic) (base sz : Nat) (p1 : Int32) (p2 : Int32) (res : Int32 × Int32 × Pic) (hR : f6_source S Y p1 p2 = res) (hks : ∀ c r, (∃ u, (c, r, u) = res) → c = 0 ∨ ∃ i : Nat, ([1] : List Int32)[i]? = some c) : Met l yL_source wsL_source rm_L_source (va_Pc [.ref (aF 0), .int p1, .int p2, .ref ao] (pL (dC, dI) cI cZ cS cJ ((wFm aF aN aT aL aO aH aP aX ++ (wSt cI aN S ++ (wLo cI aL Y))) ++ wOt cJ ao f) base sz)) (q_L_source dC dI cI cZ cS cJ aF aN aT aL aO aH ah aP aX ao S Y res (va_A ((wFm aF aN aT aL aO aH aP aX ++ (wSt cI aN S ++ (wLo cI aL Y))) ++ wOt cJ ao f) sz)) 1 6 (va_A ((wFm aF aN aT aL aO aH aP aX ++ (wSt cI aN S ++ (wLo cI aL Y))) ++ wOt cJ ao f) sz) := by
  refine met_ofWH (cc := cL_source) (maxL := 5) (ret := some .int) (hh := [(0, 10, 13, 21)]) (by decide) rfl ?_
  intro p e s m args below meth c s₁ B hml hv
  obtain ⟨rfl, ⟨hsz, hP, hK, hD0, hN, hbs, hXW⟩, hNC⟩ := hv
  have hx := B.exec
  have hb := B.bytes
  have hr := B.returns
  have hts := atoms_spec (ws := wsL_source) B.pre
  have hown : s.vm.findClass RL = some m.cls := findClass_of_methodNamed B.named
  have hlocks := B.notSynchronized
  have htab := vx_table (x := yL_source) B (hts _ List.mem_cons_self)
  subst hsz
  have hD := hD0.self (sz := s.heap.size)
  generalize hAe : va_A ((wFm aF aN aT aL aO aH aP aX ++ (wSt cI aN S ++ (wLo cI aL Y))) ++ wOt cJ ao f) s.heap.size = A at hD ⊢
  have hA : ∀ q : Nat, s.heap.size ≤ q → A q := fun q h => by rw [← hAe]; exact Or.inr h
  have hS : va_S A s.heap s.heap [] := va_S.rf
  have hP : va_P (dC, dI) vwCl ((wFm aF aN aT aL aO aH aP aX ++ (wSt cI aN S ++ (wLo cI aL Y))) ++ wOt cJ ao f) s.heap := hP
  have hK3 := hK.sub (tys' := tyS cI cZ cS) [0, 1, 2] rfl
  have hl := lv_entry ([.ref (aF 0), .int p1, .int p2, .ref ao]) (n := 5) (Nat.le_of_ble_eq_true rfl)
  rw [lg_entry_eq]
  generalize (lg_sl ([.ref (aF 0), .int p1, .int p2, .ref ao]) ++ List.replicate (5 - (lg_sl ([.ref (aF 0), .int p1, .int p2, .ref ao])).length) Slot.unset).toArray = ls at hl ⊢
  have hl : lv_has ls 5 [(0, .ref (aF 0)), (1, .int p1), (2, .int p2), (3, .ref ao)] := hl
  refine lv_aload_n hx hb dL_source_0 rfl (lv_at hl 3 rfl) ?_
  refine lv_iconst (v := (0 : Int32)) hx hb dL_source_1 (by decide) ?_
  refine lv_aload_n hx hb dL_source_2 rfl (lv_at hl 0 rfl) ?_
  refine lv_iload_n hx hb dL_source_3 rfl (lv_at hl 1 rfl) ?_
  refine lv_iload_n hx hb dL_source_4 rfl (lv_at hl 2 rfl) ?_
  have hF := va_free (wc := wFm aF aN aT aL aO aH aP aX ++ (wSt cI aN S ++ (wLo cI aL Y))) hD hS hA [0, 1, 2, 3, 4, 5, 6, 7, 8, 9, 10, 11, 12, 13, 14] rfl
  subst hR
  refine vx_calli (vx_runV (As := [.int p1, .int p2]) (rest := [.int (0 : Int32), .ref ao]) ⟨hx, hb, hml, hown, hts⟩ (met_X6_source l hfl dC dI cI cZ cS aF aN aT aL aO aH ah aP aX S Y base s.heap.size p1 p2) (cwV 2 hts gL_source_X6_source rfl rfl rfl (by decide +kernel) ⟨Nat.le_of_ble_eq_true rfl, Nat.le_of_ble_eq_true rfl⟩) (pXV (wc := wFm aF aN aT aL aO aH aP aX ++ (wSt cI aN S ++ (wLo cI aL Y))) (ci := 6) (q0 := 0) hK3 hP hD0 hN hbs hXW [0, 1, 2, 3, 4, 5, 6, 7, 8, 9, 10, 11, 12, 13, 14] rfl (by decide) rfl rfl) rfl rfl hl.1 rfl (lv_room (Nat.le_of_ble_eq_true rfl)) dL_source_5 ⟨Nat.le_of_ble_eq_true rfl, Nat.le_of_ble_eq_true rfl⟩) hS (fun q _ h => hF q h) hF (fun q _ h => hF q h) (fun E ce q9 u t H1 locs ht hvm hpx hB hz1 hk1 hS hce hcv hcl => ?_) (fun r u t H1 locs ht hvm hw hB hz1 hk1 hS => ?_)
  · obtain ⟨c, hE, hc0, hres, hB⟩ := hB
    rw [ht] at hB
    have hP := wrk2 (w2 := (wFm aF aN aT aL aO aH aP aX ++ (wSt cI aN S ++ (wLo cI aL u))) ++ wOt cJ ao f) (wr := wOt cJ ao f) hP hD [0, 1, 2, 3, 4, 5, 6, 7, 8, 9, 10, 11, 12, 13, 14] [15] rfl rfl (by decide) hk1 hB [1, 2, 3, 4, 5, 6, 7, 8, 9, 10, 11, 12, 13, 14, 15, 0] rfl
    have hD := D_addr (w1 := (wFm aF aN aT aL aO aH aP aX ++ (wSt cI aN S ++ (wLo cI aL u))) ++ wOt cJ ao f) hD rfl
    have hres2 := hres
    have hcs := hks c 0 ⟨u, hres⟩
    rcases hcs with hcs | ⟨i, hi⟩
    · exact absurd hcs hc0
    have hil : i < 1 := by
      rcases Nat.lt_or_ge i 1 with q | q
      · exact q
      · rw [List.getElem?_eq_none (by simpa using q)] at hi; cases hi
    have hik : i = 0 := by omega
    rcases hik with rfl
    · have hc : c = 1 := (Option.some.inj hi).symm
      have hE : E = "java/lang/IndexOutOfBoundsException" := hE.symm.trans (by rw [hc]; rfl)
      subst hE
      refine vx_catch (name := "java/lang/IndexOutOfBoundsException") hown [] ⟨0, 10, 13, 21⟩ [] (htab.trans rfl) (fun z hz => by cases hz) (by decide) (by decide) (hts (.classLink RL 21 "java/lang/IndexOutOfBoundsException") (by decide +kernel)) ((hXW.2.2.2.1 "java/lang/IndexOutOfBoundsException" (by decide)).use rfl) hce hcv hcl ?_
      refine lv_astore (lv' := [(4, .ref q9), (0, .ref (aF 0)), (1, .int p1), (2, .int p2), (3, .ref ao)]) hx hb dL_source_13 hl (by decide) rfl (fun ls hl => ?_)
      refine lv_iconst (v := (1 : Int32)) hx hb dL_source_15 (by decide) ?_
      exact W.widen (k := 1) (n := 6) (Nat.le_of_ble_eq_true rfl) (Nat.le_of_ble_eq_true rfl) (W.iret (v := (1 : Int32)) hx hb hr (fun t ht hW => ⟨⟨(1 : Int32), (u, f), rfl, ⟨c, 0, hres, Or.inr ⟨0, hi, rfl⟩⟩, P_at ht hP⟩, hS.F ht⟩) hS.2.2 dL_source_16)
  · rw [ht] at hB
    have hP := wrk2 (w2 := (wFm aF aN aT aL aO aH aP aX ++ (wSt cI aN S ++ (wLo cI aL u))) ++ wOt cJ ao f) (wr := wOt cJ ao f) hP hD [0, 1, 2, 3, 4, 5, 6, 7, 8, 9, 10, 11, 12, 13, 14] [15] rfl rfl (by decide) hk1 hB [1, 2, 3, 4, 5, 6, 7, 8, 9, 10, 11, 12, 13, 14, 15, 0] rfl
    have hD := D_addr (w1 := (wFm aF aN aT aL aO aH aP aX ++ (wSt cI aN S ++ (wLo cI aL u))) ++ wOt cJ ao f) hD rfl
    refine lv_i2l (v := r.toInt64) hx hb dL_source_8 rfl ?_
    refine va_last hx hb hK hP hD hS 15 3 rfl rfl (by unfold vp_in; decide) dL_source_9 (fun H2 locs2 hP hD hS => ?_)
    refine lv_goto (tgt := 17) hx hb dL_source_10 (by decide) ?_
    refine lv_iconst (v := (0 : Int32)) hx hb dL_source_17 (by decide) ?_
    have hP : va_P (dC, dI) vwCl ((wFm aF aN aT aL aO aH aP aX ++ (wSt cI aN S ++ (wLo cI aL u))) ++ wOt cJ ao (vp_updL f 0 r.toInt64)) H2 := hP
    exact W.widen (k := 1) (n := 6) (Nat.le_of_ble_eq_true rfl) (Nat.le_of_ble_eq_true rfl) (W.iret (v := (0 : Int32)) hx hb hr (fun t ht hW => ⟨⟨(0 : Int32), (u, vp_updL f 0 r.toInt64), rfl, ⟨0, r, hw, Or.inl ⟨rfl, rfl, rfl⟩⟩, P_at ht hP⟩, hS.F ht⟩) hS.2.2 dL_source_18)
abbrev rm_L_count : Room := { frames := 7, cells := 1, slots := 6, locals := 168 }
abbrev q_L_count (dC : Nat → ClassId) (dI : Nat → Nat → Nat) (cI cZ cS cJ : ClassId) (aF aN aT aL aO aH : Nat → Nat) (ah : Nat → Nat → Nat) (aP aX : Nat → Nat) (ao : Nat) (S : Pic) (Y : Pic) (G : Pic) (N : Pic) (res : Int32 × Int32 × Pic) (A : Nat → Prop) : Array Value → State → Outcome → State → Prop := va_Qi (fun (k : Int32) (u : (Pic) × (Nat → Int64)) => ∃ c r : Int32, (c, r, u.1) = res ∧ wrp [2] c r k (u.2 0)) (fun u t => va_P (dC, dI) vwCl ((wFm aF aN aT aL aO aH aP aX ++ (wSt cI aN S ++ (wLo cI aL u.1 ++ (wOu aO aN aL ++ (wHi cS aH ah G ++ (wSn cI cZ aP N)))))) ++ wOt cJ ao u.2) t.heap) A
set_option maxHeartbeats 4000000 in
set_option maxRecDepth 100000 in
theorem met_L_count (l : Launch) (hfl : l.stackTraces = false) (dC : Nat → ClassId) (dI : Nat → Nat → Nat) (cI cZ cS cJ : ClassId) (aF aN aT aL aO aH : Nat → Nat) (ah : Nat → Nat → Nat) (aP aX : Nat → Nat) (ao : Nat) (f : Nat → Int64) (S : Pic) (Y : Pic) (G : Pic) (N : Pic) (base sz : Nat) (p1 : Int32) (res : Int32 × Int32 × Pic) (hR : f6_count S Y G N p1 = res) (hks : ∀ c r, (∃ u, (c, r, u) = res) → c = 0 ∨ ∃ i : Nat, ([2] : List Int32)[i]? = some c) : Met l yL_count wsL_count rm_L_count (va_Pc [.ref (aF 0), .int p1, .ref ao] (pL (dC, dI) cI cZ cS cJ ((wFm aF aN aT aL aO aH aP aX ++ (wSt cI aN S ++ (wLo cI aL Y ++ (wOu aO aN aL ++ (wHi cS aH ah G ++ (wSn cI cZ aP N)))))) ++ wOt cJ ao f) base sz)) (q_L_count dC dI cI cZ cS cJ aF aN aT aL aO aH ah aP aX ao S Y G N res (va_A ((wFm aF aN aT aL aO aH aP aX ++ (wSt cI aN S ++ (wLo cI aL Y ++ (wOu aO aN aL ++ (wHi cS aH ah G ++ (wSn cI cZ aP N)))))) ++ wOt cJ ao f) sz)) 1 6 (va_A ((wFm aF aN aT aL aO aH aP aX ++ (wSt cI aN S ++ (wLo cI aL Y ++ (wOu aO aN aL ++ (wHi cS aH ah G ++ (wSn cI cZ aP N)))))) ++ wOt cJ ao f) sz) := by
  refine met_ofWH (cc := cL_count) (maxL := 4) (ret := some .int) (hh := [(0, 9, 12, 13)]) (by decide) rfl ?_
  intro p e s m args below meth c s₁ B hml hv
  obtain ⟨rfl, ⟨hsz, hP, hK, hD0, hN, hbs, hXW⟩, hNC⟩ := hv
  have hx := B.exec
  have hb := B.bytes
  have hr := B.returns
  have hts := atoms_spec (ws := wsL_count) B.pre
  have hown : s.vm.findClass RL = some m.cls := findClass_of_methodNamed B.named
  have hlocks := B.notSynchronized
  have htab := vx_table (x := yL_count) B (hts _ List.mem_cons_self)
  subst hsz
  have hD := hD0.self (sz := s.heap.size)
  generalize hAe : va_A ((wFm aF aN aT aL aO aH aP aX ++ (wSt cI aN S ++ (wLo cI aL Y ++ (wOu aO aN aL ++ (wHi cS aH ah G ++ (wSn cI cZ aP N)))))) ++ wOt cJ ao f) s.heap.size = A at hD ⊢
  have hA : ∀ q : Nat, s.heap.size ≤ q → A q := fun q h => by rw [← hAe]; exact Or.inr h
  have hS : va_S A s.heap s.heap [] := va_S.rf
  have hP : va_P (dC, dI) vwCl ((wFm aF aN aT aL aO aH aP aX ++ (wSt cI aN S ++ (wLo cI aL Y ++ (wOu aO aN aL ++ (wHi cS aH ah G ++ (wSn cI cZ aP N)))))) ++ wOt cJ ao f) s.heap := hP
  have hK3 := hK.sub (tys' := tyS cI cZ cS) [0, 1, 2] rfl
  have hl := lv_entry ([.ref (aF 0), .int p1, .ref ao]) (n := 4) (Nat.le_of_ble_eq_true rfl)
  rw [lg_entry_eq]
  generalize (lg_sl ([.ref (aF 0), .int p1, .ref ao]) ++ List.replicate (4 - (lg_sl ([.ref (aF 0), .int p1, .ref ao])).length) Slot.unset).toArray = ls at hl ⊢
  have hl : lv_has ls 4 [(0, .ref (aF 0)), (1, .int p1), (2, .ref ao)] := hl
  refine lv_aload_n hx hb dL_count_0 rfl (lv_at hl 2 rfl) ?_
  refine lv_iconst (v := (0 : Int32)) hx hb dL_count_1 (by decide) ?_
  refine lv_aload_n hx hb dL_count_2 rfl (lv_at hl 0 rfl) ?_
  refine lv_iload_n hx hb dL_count_3 rfl (lv_at hl 1 rfl) ?_
  have hF := va_free (wc := wFm aF aN aT aL aO aH aP aX ++ (wSt cI aN S ++ (wLo cI aL Y ++ (wOu aO aN aL ++ (wHi cS aH ah G ++ (wSn cI cZ aP N)))))) hD hS hA [0, 1, 2, 3, 4, 5, 6, 7, 8, 9, 10, 11, 12, 13, 14, 15, 16, 17, 18, 19, 20] rfl
  subst hR
  refine vx_calli (vx_runV (As := [.int p1]) (rest := [.int (0 : Int32), .ref ao]) ⟨hx, hb, hml, hown, hts⟩ (met_X6_count l hfl dC dI cI cZ cS aF aN aT aL aO aH ah aP aX S Y G N base s.heap.size p1) (cwV 1 hts gL_count_X6_count rfl rfl rfl (by decide +kernel) ⟨Nat.le_of_ble_eq_true rfl, Nat.le_of_ble_eq_true rfl⟩) (pXV (wc := wFm aF aN aT aL aO aH aP aX ++ (wSt cI aN S ++ (wLo cI aL Y ++ (wOu aO aN aL ++ (wHi cS aH ah G ++ (wSn cI cZ aP N)))))) (ci := 6) (q0 := 0) hK3 hP hD0 hN hbs hXW [0, 1, 2, 3, 4, 5, 6, 7, 8, 9, 10, 11, 12, 13, 14, 15, 16, 17, 18, 19, 20] rfl (by decide) rfl rfl) rfl rfl hl.1 rfl (lv_room (Nat.le_of_ble_eq_true rfl)) dL_count_4 ⟨Nat.le_of_ble_eq_true rfl, Nat.le_of_ble_eq_true rfl⟩) hS (fun q _ h => hF q h) hF (fun q _ h => hF q h) (fun E ce q9 u t H1 locs ht hvm hpx hB hz1 hk1 hS hce hcv hcl => ?_) (fun r u t H1 locs ht hvm hw hB hz1 hk1 hS => ?_)
  · obtain ⟨c, hE, hc0, hres, hB⟩ := hB
    rw [ht] at hB
    have hP := wrk2 (w2 := (wFm aF aN aT aL aO aH aP aX ++ (wSt cI aN S ++ (wLo cI aL u ++ (wOu aO aN aL ++ (wHi cS aH ah G ++ (wSn cI cZ aP N)))))) ++ wOt cJ ao f) (wr := wOt cJ ao f) hP hD [0, 1, 2, 3, 4, 5, 6, 7, 8, 9, 10, 11, 12, 13, 14, 15, 16, 17, 18, 19, 20] [21] rfl rfl (by decide) hk1 hB [1, 2, 3, 4, 5, 6, 7, 8, 9, 10, 11, 12, 13, 14, 15, 16, 17, 18, 19, 20, 21, 0] rfl
    have hD := D_addr (w1 := (wFm aF aN aT aL aO aH aP aX ++ (wSt cI aN S ++ (wLo cI aL u ++ (wOu aO aN aL ++ (wHi cS aH ah G ++ (wSn cI cZ aP N)))))) ++ wOt cJ ao f) hD rfl
    have hres2 := hres
    have hcs := hks c 0 ⟨u, hres⟩
    rcases hcs with hcs | ⟨i, hi⟩
    · exact absurd hcs hc0
    have hil : i < 1 := by
      rcases Nat.lt_or_ge i 1 with q | q
      · exact q
      · rw [List.getElem?_eq_none (by simpa using q)] at hi; cases hi
    have hik : i = 0 := by omega
    rcases hik with rfl
    · have hc : c = 2 := (Option.some.inj hi).symm
      have hE : E = "java/lang/IllegalArgumentException" := hE.symm.trans (by rw [hc]; rfl)
      subst hE
      refine vx_catch (name := "java/lang/IllegalArgumentException") hown [] ⟨0, 9, 12, 13⟩ [] (htab.trans rfl) (fun z hz => by cases hz) (by decide) (by decide) (hts (.classLink RL 13 "java/lang/IllegalArgumentException") (by decide +kernel)) ((hXW.2.2.2.1 "java/lang/IllegalArgumentException" (by decide)).use rfl) hce hcv hcl ?_
      refine lv_astore_n (lv' := [(3, .ref q9), (0, .ref (aF 0)), (1, .int p1), (2, .ref ao)]) hx hb dL_count_12 rfl hl (by decide) rfl (fun ls hl => ?_)
      refine lv_iconst (v := (1 : Int32)) hx hb dL_count_13 (by decide) ?_
      exact W.widen (k := 1) (n := 6) (Nat.le_of_ble_eq_true rfl) (Nat.le_of_ble_eq_true rfl) (W.iret (v := (1 : Int32)) hx hb hr (fun t ht hW => ⟨⟨(1 : Int32), (u, f), rfl, ⟨c, 0, hres, Or.inr ⟨0, hi, rfl⟩⟩, P_at ht hP⟩, hS.F ht⟩) hS.2.2 dL_count_14)
  · rw [ht] at hB
    have hP := wrk2 (w2 := (wFm aF aN aT aL aO aH aP aX ++ (wSt cI aN S ++ (wLo cI aL u ++ (wOu aO aN aL ++ (wHi cS aH ah G ++ (wSn cI cZ aP N)))))) ++ wOt cJ ao f) (wr := wOt cJ ao f) hP hD [0, 1, 2, 3, 4, 5, 6, 7, 8, 9, 10, 11, 12, 13, 14, 15, 16, 17, 18, 19, 20] [21] rfl rfl (by decide) hk1 hB [1, 2, 3, 4, 5, 6, 7, 8, 9, 10, 11, 12, 13, 14, 15, 16, 17, 18, 19, 20, 21, 0] rfl
    have hD := D_addr (w1 := (wFm aF aN aT aL aO aH aP aX ++ (wSt cI aN S ++ (wLo cI aL u ++ (wOu aO aN aL ++ (wHi cS aH ah G ++ (wSn cI cZ aP N)))))) ++ wOt cJ ao f) hD rfl
    refine lv_i2l (v := r.toInt64) hx hb dL_count_7 rfl ?_
    refine va_last hx hb hK hP hD hS 21 3 rfl rfl (by unfold vp_in; decide) dL_count_8 (fun H2 locs2 hP hD hS => ?_)
    refine lv_goto (tgt := 15) hx hb dL_count_9 (by decide) ?_
    refine lv_iconst (v := (0 : Int32)) hx hb dL_count_15 (by decide) ?_
    have hP : va_P (dC, dI) vwCl ((wFm aF aN aT aL aO aH aP aX ++ (wSt cI aN S ++ (wLo cI aL u ++ (wOu aO aN aL ++ (wHi cS aH ah G ++ (wSn cI cZ aP N)))))) ++ wOt cJ ao (vp_updL f 0 r.toInt64)) H2 := hP
    exact W.widen (k := 1) (n := 6) (Nat.le_of_ble_eq_true rfl) (Nat.le_of_ble_eq_true rfl) (W.iret (v := (0 : Int32)) hx hb hr (fun t ht hW => ⟨⟨(0 : Int32), (u, vp_updL f 0 r.toInt64), rfl, ⟨0, r, hw, Or.inl ⟨rfl, rfl, rfl⟩⟩, P_at ht hP⟩, hS.F ht⟩) hS.2.2 dL_count_16)
