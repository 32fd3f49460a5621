abbrev rm_L_addDish : Room := { frames := 7, cells := 1, slots := 6, locals := 116 }
abbrev q_L_addDish (dC : Nat → ClassId) (dI : Nat → Nat → Nat) (cI cZ cS cJ : ClassId) (aF aN aT aL aO aH : Nat → Nat) (ah : Nat → Nat → Nat) (aP aX : Nat → Nat) (ao : Nat) (S : Pic) (G : Pic) (Z : (Nat → Pic)) (res : Int32 × Int32 × Pic × Pic × (Nat → Pic)) (A : Nat → Prop) : Array Value → State → Outcome → State → Prop := va_Qi (fun (k : Int32) (u : (Pic × Pic × (Nat → Pic)) × (Nat → Int64)) => ∃ c r : Int32, (c, r, u.1) = res ∧ wrp [2, 3] c r k (u.2 0)) (fun u t => va_P (dC, dI) vwCl ((wFm aF aN aT aL aO aH aP aX ++ (wSt cI aN u.1.1 ++ (wHi cS aH ah u.1.2.1 ++ (wZs cI ah u.1.2.2)))) ++ wOt cJ ao u.2) t.heap) A
set_option maxHeartbeats 4000000 in
set_option maxRecDepth 100000 in
theorem met_L_addDish (l : Launch) (hfl : l.stackTraces = false) (dC : Nat → ClassId) (dI : Nat → Nat → Nat) (cI cZ cS cJ : ClassId) (aF aN aT aL aO aH : Nat → Nat) (ah : Nat → Nat → Nat) (aP aX : Nat → Nat) (ao : Nat) (f : Nat → Int64) (S : Pic) (G : Pic) (Z : (Nat → Pic)) (base sz : Nat) (p1 : Int32) (p2 : Int32) (p3 : Int32) (p4 : Int32) (res : Int32 × Int32 × Pic × Pic × (Nat → Pic)) (hR : f6_addDish S G Z p1 p2 p3 p4 = res) (hks : ∀ c r, (∃ u, (c, r, u) = res) → c = 0 ∨ ∃ i : Nat, ([2, 3] : List Int32)[i]? = some c) : Met l yL_addDish wsL_addDish rm_L_addDish (va_Pc [.ref (aF 0), .int p1, .int p2, .int p3, .int p4, .ref ao] (pL (dC, dI) cI cZ cS cJ ((wFm aF aN aT aL aO aH aP aX ++ (wSt cI aN S ++ (wHi cS aH ah G ++ (wZs cI ah Z)))) ++ wOt cJ ao f) base sz)) (q_L_addDish dC dI cI cZ cS cJ aF aN aT aL aO aH ah aP aX ao S G Z res (va_A ((wFm aF aN aT aL aO aH aP aX ++ (wSt cI aN S ++ (wHi cS aH ah G ++ (wZs cI ah Z)))) ++ wOt cJ ao f) sz)) 1 6 (va_A ((wFm aF aN aT aL aO aH aP aX ++ (wSt cI aN S ++ (wHi cS aH ah G ++ (wZs cI ah Z)))) ++ wOt cJ ao f) sz) := by
  refine met_ofWH (cc := cL_addDish) (maxL := 7) (ret := some .int) (hh := [(0, 14, 17, 13), (0, 14, 21, 15)]) (by decide) rfl ?_
  intro p e s m args below meth c s₁ B hml hv
  obtain ⟨rfl, ⟨hsz, hP, hK, hD0, hN, hbs, hXW⟩, hNC⟩ := hv
  have hx := B.exec
  have hb := B.bytes
  have hr := B.returns
  have hts := atoms_spec (ws := wsL_addDish) B.pre
  have hown : s.vm.findClass RL = some m.cls := findClass_of_methodNamed B.named
  have hlocks := B.notSynchronized
  have htab := vx_table B (hts _ List.mem_cons_self)
  subst hsz
  have hD := hD0.self (sz := s.heap.size)
  generalize hAe : va_A ((wFm aF aN aT aL aO aH aP aX ++ (wSt cI aN S ++ (wHi cS aH ah G ++ (wZs cI ah Z)))) ++ wOt cJ ao f) s.heap.size = A at hD ⊢
  have hA : ∀ q : Nat, s.heap.size ≤ q → A q := fun q h => by rw [← hAe]; exact Or.inr h
  have hS : va_S A s.heap s.heap [] := va_S.rf
  have hP : va_P (dC, dI) vwCl ((wFm aF aN aT aL aO aH aP aX ++ (wSt cI aN S ++ (wHi cS aH ah G ++ (wZs cI ah Z)))) ++ wOt cJ ao f) s.heap := hP
  have hK3 := hK.sub (tys' := tyS cI cZ cS) [0, 1, 2] rfl
  have hl := lv_entry ([.ref (aF 0), .int p1, .int p2, .int p3, .int p4, .ref ao]) (n := 7) (Nat.le_of_ble_eq_true rfl)
  rw [lg_entry_eq]
  generalize (lg_sl ([.ref (aF 0), .int p1, .int p2, .int p3, .int p4, .ref ao]) ++ List.replicate (7 - (lg_sl ([.ref (aF 0), .int p1, .int p2, .int p3, .int p4, .ref ao])).length) Slot.unset).toArray = ls at hl ⊢
  have hl : lv_has ls 7 [(0, .ref (aF 0)), (1, .int p1), (2, .int p2), (3, .int p3), (4, .int p4), (5, .ref ao)] := hl
  refine lv_aload hx hb dL_addDish_0 (lv_at hl 5 rfl) ?_
  refine lv_iconst (v := (0 : Int32)) hx hb dL_addDish_2 (by decide) ?_
  refine lv_aload_n hx hb dL_addDish_3 rfl (lv_at hl 0 rfl) ?_
  refine lv_iload_n hx hb dL_addDish_4 rfl (lv_at hl 1 rfl) ?_
  refine lv_iload_n hx hb dL_addDish_5 rfl (lv_at hl 2 rfl) ?_
  refine lv_iload_n hx hb dL_addDish_6 rfl (lv_at hl 3 rfl) ?_
  refine lv_iload hx hb dL_addDish_7 (lv_at hl 4 rfl) ?_
  have hF := va_free (wc := wFm aF aN aT aL aO aH aP aX ++ (wSt cI aN S ++ (wHi cS aH ah G ++ (wZs cI ah Z)))) hD hS hA [0, 1, 2, 3, 4, 5, 6, 7, 8, 9, 10, 11, 12, 13, 14, 15, 16, 17, 18, 19, 20, 21, 22, 23, 24, 25, 26, 27, 28, 29, 30, 31, 32, 33, 34, 35, 36, 37, 38, 39, 40, 41, 42, 43, 44, 45, 46, 47, 48, 49, 50, 51, 52, 53, 54, 55, 56, 57, 58, 59, 60, 61, 62, 63, 64, 65, 66, 67, 68, 69, 70, 71, 72, 73, 74, 75, 76, 77, 78, 79, 80, 81, 82, 83, 84, 85, 86] rfl
  subst hR
  refine vx_calli (vx_runV (As := [.int p1, .int p2, .int p3, .int p4]) (rest := [.int (0 : Int32), .ref ao]) ⟨hx, hb, hml, hown, hts⟩ (met_X6_addDish l hfl dC dI cI cZ cS aF aN aT aL aO aH ah aP aX S G Z base s.heap.size p1 p2 p3 p4) (cwV 4 hts gL_addDish_X6_addDish rfl rfl rfl (by decide +kernel) ⟨Nat.le_of_ble_eq_true rfl, Nat.le_of_ble_eq_true rfl⟩) (pXV (wc := wFm aF aN aT aL aO aH aP aX ++ (wSt cI aN S ++ (wHi cS aH ah G ++ (wZs cI ah Z)))) (ci := 6) (q0 := 0) hK3 hP hD0 hN hbs hXW [0, 1, 2, 3, 4, 5, 6, 7, 8, 9, 10, 11, 12, 13, 14, 15, 16, 17, 18, 19, 20, 21, 22, 23, 24, 25, 26, 27, 28, 29, 30, 31, 32, 33, 34, 35, 36, 37, 38, 39, 40, 41, 42, 43, 44, 45, 46, 47, 48, 49, 50, 51, 52, 53, 54, 55, 56, 57, 58, 59, 60, 61, 62, 63, 64, 65, 66, 67, 68, 69, 70, 71, 72, 73, 74, 75, 76, 77, 78, 79, 80, 81, 82, 83, 84, 85, 86] rfl (by decide) rfl rfl) rfl rfl hl.1 rfl (lv_room (Nat.le_of_ble_eq_true rfl)) dL_addDish_9 ⟨Nat.le_of_ble_eq_true rfl, Nat.le_of_ble_eq_true rfl⟩) hS (fun q _ h => hF q h) hF (fun q _ h => hF q h) (fun E ce q9 u t H1 locs ht hvm hpx hB hz1 hk1 hS hce hcv hcl => ?_) (fun r u t H1 locs ht hvm hw hB hz1 hk1 hS => ?_)
  · obtain ⟨c, hE, hc0, hres, hB⟩ := hB
    rw [ht] at hB
    have hP := wrk2 (w2 := (wFm aF aN aT aL aO aH aP aX ++ (wSt cI aN u.1 ++ (wHi cS aH ah u.2.1 ++ (wZs cI ah u.2.2)))) ++ wOt cJ ao f) (wr := wOt cJ ao f) hP hD [0, 1, 2, 3, 4, 5, 6, 7, 8, 9, 10, 11, 12, 13, 14, 15, 16, 17, 18, 19, 20, 21, 22, 23, 24, 25, 26, 27, 28, 29, 30, 31, 32, 33, 34, 35, 36, 37, 38, 39, 40, 41, 42, 43, 44, 45, 46, 47, 48, 49, 50, 51, 52, 53, 54, 55, 56, 57, 58, 59, 60, 61, 62, 63, 64, 65, 66, 67, 68, 69, 70, 71, 72, 73, 74, 75, 76, 77, 78, 79, 80, 81, 82, 83, 84, 85, 86] [87] rfl rfl (by decide) hk1 hB [1, 2, 3, 4, 5, 6, 7, 8, 9, 10, 11, 12, 13, 14, 15, 16, 17, 18, 19, 20, 21, 22, 23, 24, 25, 26, 27, 28, 29, 30, 31, 32, 33, 34, 35, 36, 37, 38, 39, 40, 41, 42, 43, 44, 45, 46, 47, 48, 49, 50, 51, 52, 53, 54, 55, 56, 57, 58, 59, 60, 61, 62, 63, 64, 65, 66, 67, 68, 69, 70, 71, 72, 73, 74, 75, 76, 77, 78, 79, 80, 81, 82, 83, 84, 85, 86, 87, 0] rfl
    have hD := D_addr (w1 := (wFm aF aN aT aL aO aH aP aX ++ (wSt cI aN u.1 ++ (wHi cS aH ah u.2.1 ++ (wZs cI ah u.2.2)))) ++ wOt cJ ao f) hD rfl
    have hres2 := hres
    have hcs := hks c 0 ⟨u, hres⟩
    rcases hcs with hcs | ⟨i, hi⟩
    · exact absurd hcs hc0
    have hil : i < 2 := by
      rcases Nat.lt_or_ge i 2 with q | q
      · exact q
      · rw [List.getElem?_eq_none (by simpa using q)] at hi; cases hi
    have hik : i = 0 ∨ i = 1 := by omega
    rcases hik with rfl | rfl
    · have hc : c = 2 := (Option.some.inj hi).symm
      have hE : E = "java/lang/IllegalArgumentException" := hE.symm.trans (by rw [hc]; rfl)
      subst hE
      refine vx_catch (name := "java/lang/IllegalArgumentException") hown [] ⟨0, 14, 17, 13⟩ [⟨0, 14, 21, 15⟩] (htab.trans rfl) (fun z hz => by cases hz) (by decide) (by decide) (hts (.classLink RL 13 "java/lang/IllegalArgumentException") (by decide +kernel)) ((hXW.2.2.2.1 "java/lang/IllegalArgumentException" (by decide)).use rfl) hce hcv hcl ?_
      refine lv_astore (lv' := [(6, .ref q9), (0, .ref (aF 0)), (1, .int p1), (2, .int p2), (3, .int p3), (4, .int p4), (5, .ref ao)]) hx hb dL_addDish_17 hl (by decide) rfl (fun ls hl => ?_)
      refine lv_iconst (v := (1 : Int32)) hx hb dL_addDish_19 (by decide) ?_
      exact W.widen (k := 1) (n := 6) (Nat.le_of_ble_eq_true rfl) (Nat.le_of_ble_eq_true rfl) (W.iret (v := (1 : Int32)) hx hb hr (fun t ht hW => ⟨⟨(1 : Int32), (u, f), rfl, ⟨c, 0, hres, Or.inr ⟨0, hi, rfl⟩⟩, P_at ht hP⟩, hS.F ht⟩) hS.2.2 dL_addDish_20)
    · have hc : c = 3 := (Option.some.inj hi).symm
      have hE : E = "java/lang/IllegalStateException" := hE.symm.trans (by rw [hc]; rfl)
      subst hE
      refine vx_catch (name := "java/lang/IllegalStateException") hown [⟨0, 14, 17, 13⟩] ⟨0, 14, 21, 15⟩ [] (htab.trans rfl) (List.forall_mem_cons.mpr ⟨Or.inr ⟨by decide, "java/lang/IllegalArgumentException", (hts (.classLink RL 13 "java/lang/IllegalArgumentException") (by decide +kernel)), hNC ("java/lang/IllegalStateException", "java/lang/IllegalArgumentException") (by decide)⟩, (fun z hz => by cases hz)⟩) (by decide) (by decide) (hts (.classLink RL 15 "java/lang/IllegalStateException") (by decide +kernel)) ((hXW.2.2.2.1 "java/lang/IllegalStateException" (by decide)).use rfl) hce hcv hcl ?_
      refine lv_astore (lv' := [(6, .ref q9), (0, .ref (aF 0)), (1, .int p1), (2, .int p2), (3, .int p3), (4, .int p4), (5, .ref ao)]) hx hb dL_addDish_21 hl (by decide) rfl (fun ls hl => ?_)
      refine lv_iconst (v := (2 : Int32)) hx hb dL_addDish_23 (by decide) ?_
      exact W.widen (k := 1) (n := 6) (Nat.le_of_ble_eq_true rfl) (Nat.le_of_ble_eq_true rfl) (W.iret (v := (2 : Int32)) hx hb hr (fun t ht hW => ⟨⟨(2 : Int32), (u, f), rfl, ⟨c, 0, hres, Or.inr ⟨1, hi, rfl⟩⟩, P_at ht hP⟩, hS.F ht⟩) hS.2.2 dL_addDish_24)
  · rw [ht] at hB
    have hP := wrk2 (w2 := (wFm aF aN aT aL aO aH aP aX ++ (wSt cI aN u.1 ++ (wHi cS aH ah u.2.1 ++ (wZs cI ah u.2.2)))) ++ wOt cJ ao f) (wr := wOt cJ ao f) hP hD [0, 1, 2, 3, 4, 5, 6, 7, 8, 9, 10, 11, 12, 13, 14, 15, 16, 17, 18, 19, 20, 21, 22, 23, 24, 25, 26, 27, 28, 29, 30, 31, 32, 33, 34, 35, 36, 37, 38, 39, 40, 41, 42, 43, 44, 45, 46, 47, 48, 49, 50, 51, 52, 53, 54, 55, 56, 57, 58, 59, 60, 61, 62, 63, 64, 65, 66, 67, 68, 69, 70, 71, 72, 73, 74, 75, 76, 77, 78, 79, 80, 81, 82, 83, 84, 85, 86] [87] rfl rfl (by decide) hk1 hB [1, 2, 3, 4, 5, 6, 7, 8, 9, 10, 11, 12, 13, 14, 15, 16, 17, 18, 19, 20, 21, 22, 23, 24, 25, 26, 27, 28, 29, 30, 31, 32, 33, 34, 35, 36, 37, 38, 39, 40, 41, 42, 43, 44, 45, 46, 47, 48, 49, 50, 51, 52, 53, 54, 55, 56, 57, 58, 59, 60, 61, 62, 63, 64, 65, 66, 67, 68, 69, 70, 71, 72, 73, 74, 75, 76, 77, 78, 79, 80, 81, 82, 83, 84, 85, 86, 87, 0] rfl
    have hD := D_addr (w1 := (wFm aF aN aT aL aO aH aP aX ++ (wSt cI aN u.1 ++ (wHi cS aH ah u.2.1 ++ (wZs cI ah u.2.2)))) ++ wOt cJ ao f) hD rfl
    refine lv_i2l (v := r.toInt64) hx hb dL_addDish_12 rfl ?_
    refine va_last hx hb hK hP hD hS 87 3 rfl rfl (by decide) dL_addDish_13 (fun H2 locs2 hP hD hS => ?_)
    refine lv_goto (tgt := 25) hx hb dL_addDish_14 (by decide) ?_
    refine lv_iconst (v := (0 : Int32)) hx hb dL_addDish_25 (by decide) ?_
    have hP : va_P (dC, dI) vwCl ((wFm aF aN aT aL aO aH aP aX ++ (wSt cI aN u.1 ++ (wHi cS aH ah u.2.1 ++ (wZs cI ah u.2.2)))) ++ wOt cJ ao (vp_updL f 0 r.toInt64)) H2 := hP
    exact W.widen (k := 1) (n := 6) (Nat.le_of_ble_eq_true rfl) (Nat.le_of_ble_eq_true rfl) (W.iret (v := (0 : Int32)) hx hb hr (fun t ht hW => ⟨⟨(0 : Int32), (u, vp_updL f 0 r.toInt64), rfl, ⟨0, r, hw, Or.inl ⟨rfl, rfl, rfl⟩⟩, P_at ht hP⟩, hS.F ht⟩) hS.2.2 dL_addDish_26)
abbrev rm_L_planned : Room := { frames := 7, cells := 1, slots := 6, locals := 114 }
abbrev q_L_planned (dC : Nat → ClassId) (dI : Nat → Nat → Nat) (cI cZ cS cJ : ClassId) (aF aN aT aL aO aH : Nat → Nat) (ah : Nat → Nat → Nat) (aP aX : Nat → Nat) (ao : Nat) (S : Pic) (res : Int32 × Int32) (A : Nat → Prop) : Array Value → State → Outcome → State → Prop := va_Qi (fun (k : Int32) (u : (Unit) × (Nat → Int64)) => ∃ c r : Int32, (c, r) = res ∧ wrp [1] c r k (u.2 0)) (fun u t => va_P (dC, dI) vwCl ((wFm aF aN aT aL aO aH aP aX ++ (wSt cI aN S)) ++ wOt cJ ao u.2) t.heap) A
set_option maxHeartbeats 4000000 in
set_option maxRecDepth 100000 in
theorem met_L_planned (l : Launch) (hfl : l.stackTraces = false) (dC : Nat → ClassId) (dI : Nat → Nat → Nat) (cI cZ cS cJ : ClassId) (aF aN aT aL aO aH : Nat → Nat) (ah : Nat → Nat → Nat) (aP aX : Nat → Nat) (ao : Nat) (f : Nat → Int64) (S : Pic) (base sz : Nat) (p1 : Int32) (p2 : Int32) (res : Int32 × Int32) (hR : f6_planned S p1 p2 = res) (hks : ∀ c r, (∃ u, u = () ∧ (c, r) = res) → c = 0 ∨ ∃ i : Nat, ([1] : List Int32)[i]? = some c) : Met l yL_planned wsL_planned rm_L_planned (va_Pc [.ref (aF 0), .int p1, .int p2, .ref ao] (pL (dC, dI) cI cZ cS cJ ((wFm aF aN aT aL aO aH aP aX ++ (wSt cI aN S)) ++ wOt cJ ao f) base sz)) (q_L_planned dC dI cI cZ cS cJ aF aN aT aL aO aH ah aP aX ao S res (va_A ((wFm aF aN aT aL aO aH aP aX ++ (wSt cI aN S)) ++ wOt cJ ao f) sz)) 1 6 (va_A ((wFm aF aN aT aL aO aH aP aX ++ (wSt cI aN S)) ++ wOt cJ ao f) sz) := by
  refine met_ofWH (cc := cL_planned) (maxL := 5) (ret := some .int) (hh := [(0, 10, 13, 21)]) (by decide) rfl ?_
  intro p e s m args below meth c s₁ B hml hv
  obtain ⟨rfl, ⟨hsz, hP, hK, hD0, hN, hbs, hXW⟩, hNC⟩ := hv
  have hx := B.exec
  have hb := B.bytes
  have hr := B.returns
  have hts := atoms_spec (ws := wsL_planned) B.pre
  have hown : s.vm.findClass RL = some m.cls := findClass_of_methodNamed B.named
  have hlocks := B.notSynchronized
  have htab := vx_table B (hts _ List.mem_cons_self)
  subst hsz
  have hD := hD0.self (sz := s.heap.size)
  generalize hAe : va_A ((wFm aF aN aT aL aO aH aP aX ++ (wSt cI aN S)) ++ wOt cJ ao f) s.heap.size = A at hD ⊢
  have hA : ∀ q : Nat, s.heap.size ≤ q → A q := fun q h => by rw [← hAe]; exact Or.inr h
  have hS : va_S A s.heap s.heap [] := va_S.rf
  have hP : va_P (dC, dI) vwCl ((wFm aF aN aT aL aO aH aP aX ++ (wSt cI aN S)) ++ wOt cJ ao f) s.heap := hP
  have hK3 := hK.sub (tys' := tyS cI cZ cS) [0, 1, 2] rfl
  have hl := lv_entry ([.ref (aF 0), .int p1, .int p2, .ref ao]) (n := 5) (Nat.le_of_ble_eq_true rfl)
  rw [lg_entry_eq]
  generalize (lg_sl ([.ref (aF 0), .int p1, .int p2, .ref ao]) ++ List.replicate (5 - (lg_sl ([.ref (aF 0), .int p1, .int p2, .ref ao])).length) Slot.unset).toArray = ls at hl ⊢
  have hl : lv_has ls 5 [(0, .ref (aF 0)), (1, .int p1), (2, .int p2), (3, .ref ao)] := hl
  refine lv_aload_n hx hb dL_planned_0 rfl (lv_at hl 3 rfl) ?_
  refine lv_iconst (v := (0 : Int32)) hx hb dL_planned_1 (by decide) ?_
  refine lv_aload_n hx hb dL_planned_2 rfl (lv_at hl 0 rfl) ?_
  refine lv_iload_n hx hb dL_planned_3 rfl (lv_at hl 1 rfl) ?_
  refine lv_iload_n hx hb dL_planned_4 rfl (lv_at hl 2 rfl) ?_
  subst hR
  refine vx_calli (vx_runV (As := [.int p1, .int p2]) (rest := [.int (0 : Int32), .ref ao]) ⟨hx, hb, hml, hown, hts⟩ (met_X6_planned l hfl dC dI cI cZ cS aF aN aT aL aO aH ah aP aX S base s.heap.size p1 p2) (cwV 2 hts gL_planned_X6_planned rfl rfl rfl (by decide +kernel) ⟨Nat.le_of_ble_eq_true rfl, Nat.le_of_ble_eq_true rfl⟩) (pXV (wc := wFm aF aN aT aL aO aH aP aX ++ (wSt cI aN S)) (ci := 6) (q0 := 0) hK3 hP hD0 hN hbs hXW [0, 1, 2, 3, 4, 5, 6, 7, 8, 9, 10, 11, 12] rfl (by decide) rfl rfl) rfl rfl hl.1 rfl (lv_room (Nat.le_of_ble_eq_true rfl)) dL_planned_5 ⟨Nat.le_of_ble_eq_true rfl, Nat.le_of_ble_eq_true rfl⟩) hS (fun q _ h => (a0_in hS hA) q h) (a0_in hS hA) (fun q _ h => (a0_in hS hA) q h) (fun E ce q9 u t H1 locs ht hvm hpx hB hz1 hk1 hS hce hcv hcl => ?_) (fun r u t H1 locs ht hvm hw hB hz1 hk1 hS => ?_)
  · obtain ⟨c, hE, hc0, hres, -⟩ := hB
    have hP := rdk hP hk1
    have hres2 := hres
    have hcs := hks c 0 ⟨(), rfl, hres⟩
    rcases hcs with hcs | ⟨i, hi⟩
    · exact absurd hcs hc0
    have hil : i < 1 := by
      rcases Nat.lt_or_ge i 1 with q | q
      · exact q
      · rw [List.getElem?_eq_none (by simpa using q)] at hi; cases hi
    have hik : i = 0 := by omega
    rcases hik with rfl
    · have hc : c = 1 := (Option.some.inj hi).symm
      have hE : E = "java/lang/IndexOutOfBoundsException" := hE.symm.trans (by rw [hc]; rfl)
      subst hE
      refine vx_catch (name := "java/lang/IndexOutOfBoundsException") hown [] ⟨0, 10, 13, 21⟩ [] (htab.trans rfl) (fun z hz => by cases hz) (by decide) (by decide) (hts (.classLink RL 21 "java/lang/IndexOutOfBoundsException") (by decide +kernel)) ((hXW.2.2.2.1 "java/lang/IndexOutOfBoundsException" (by decide)).use rfl) hce hcv hcl ?_
      refine lv_astore (lv' := [(4, .ref q9), (0, .ref (aF 0)), (1, .int p1), (2, .int p2), (3, .ref ao)]) hx hb dL_planned_13 hl (by decide) rfl (fun ls hl => ?_)
      refine lv_iconst (v := (1 : Int32)) hx hb dL_planned_15 (by decide) ?_
      exact W.widen (k := 1) (n := 6) (Nat.le_of_ble_eq_true rfl) (Nat.le_of_ble_eq_true rfl) (W.iret (v := (1 : Int32)) hx hb hr (fun t ht hW => ⟨⟨(1 : Int32), ((), f), rfl, ⟨c, 0, hres, Or.inr ⟨0, hi, rfl⟩⟩, P_at ht hP⟩, hS.F ht⟩) hS.2.2 dL_planned_16)
  · clear hB
    have hP := rdk hP hk1
    refine lv_i2l (v := r.toInt64) hx hb dL_planned_8 rfl ?_
    refine va_last hx hb hK hP hD hS 13 3 rfl rfl (by decide) dL_planned_9 (fun H2 locs2 hP hD hS => ?_)
    refine lv_goto (tgt := 17) hx hb dL_planned_10 (by decide) ?_
    refine lv_iconst (v := (0 : Int32)) hx hb dL_planned_17 (by decide) ?_
    have hP : va_P (dC, dI) vwCl ((wFm aF aN aT aL aO aH aP aX ++ (wSt cI aN S)) ++ wOt cJ ao (vp_updL f 0 r.toInt64)) H2 := hP
    exact W.widen (k := 1) (n := 6) (Nat.le_of_ble_eq_true rfl) (Nat.le_of_ble_eq_true rfl) (W.iret (v := (0 : Int32)) hx hb hr (fun t ht hW => ⟨⟨(0 : Int32), ((), vp_updL f 0 r.toInt64), rfl, ⟨0, r, hw, Or.inl ⟨rfl, rfl, rfl⟩⟩, P_at ht hP⟩, hS.F ht⟩) hS.2.2 dL_planned_18)
