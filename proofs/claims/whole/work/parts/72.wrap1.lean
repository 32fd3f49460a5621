abbrev rm_L_addDish : Room := { frames := 7, cells := 1, slots := 6, locals := 116 }
abbrev q_L_addDish (dC : Nat → ClassId) (dI : Nat → Nat → Nat) (cI cZ cS cJ : ClassId) (aF aN aT aL aO aH : Nat → Nat) (ah : Nat → Nat → Nat) (aP aX : Nat → Nat) (ao : Nat) (S : Pic) (G : Pic) (Z : (Nat → Pic)) (res : Int32 × Int32 × Pic × Pic × (Nat → Pic)) (A : Nat → Prop) : Array Value → State → Outcome → State → Prop := va_Qi (fun (k : Int32) (u : (Pic × Pic × (Nat → Pic)) × (Nat → Int64)) => ∃ c r : Int32, (c, r, u.1) = res ∧ wrp [2, 3] c r k (u.2 0)) (fun u t => va_P (dC, dI) vwCl ((wFm aF aN aT aL aO aH aP aX ++ (wSt cI aN u.1.1 ++ (wHi cS aH ah u.1.2.1 ++ (wZs cI ah u.1.2.2)))) ++ wOt cJ ao u.2) t.heap) A
set_option maxHeartbeats 4000000 in
set_option maxRecDepth 100000 in
theorem met_L_addDish (l : Launch) (hfl : l.stackTraces = false) (dC : Nat → ClassId) (dI : Nat → Nat → Nat) (cI cZ cS cJ : ClassId) (aF aN aT aL aO aH : Nat → Nat) (ah : Nat → Nat → Nat) (aP aX : Nat → Nat) (ao : Nat) (f : Nat → Int64) (S : Pic) (G : Pic) (Z : (Nat → Pic)) (base sz : Nat) (p1 : Int32) (p2 : Int32) (p3 : Int32) (p4 : Int32) (res : Int32 × Int32 × Pic × Pic × (Nat → Pic)) (hR : f6_addDish S G Z p1 p2 p3 p4 = res) (hks : ∀ c r, (∃ u, (c, r, u) = res) → c = 0 ∨ ∃ i : Nat, ([2, 3] : List Int32)[i]? = some c) : Met l yL_addDish wsL_addDish rm_L_addDish (va_Pc [.ref (aF 0), .int p1, .int p2, .int p3, .int p4, .ref ao] (pL (dC, dI) cI cZ cS cJ ((wFm aF aN aT aL aO aH aP aX ++ (wSt cI aN S ++ (wHi cS aH ah G ++ (wZs cI ah Z)))) ++ wOt cJ ao f) base sz)) (q_L_addDish dC dI cI cZ cS cJ aF aN aT aL aO aH ah aP aX ao S G Z res (va_A ((wFm aF aN aT aL aO aH aP aX ++ (wSt cI aN S ++ (wHi cS aH ah G ++ (wZs cI ah Z)))) ++ wOt cJ ao f) sz)) 1 6 (va_A ((wFm aF aN aT aL aO aH aP aX ++ (wSt cI aN S ++ (wHi cS aH ah G ++ (wZs cI ah Z)))) ++ wOt cJ ao f) sz) := by
  refine met_ofWH (cc := cL_addDish) (maxL := 7) (ret := some .int) (hh := [(0, 14, 17, 13), (0, 14, 21, 15)]) (by decide) rfl ?_
  intro p e s m args below meth c s₁ B hml hv
  obtain ⟨rfl, ⟨hsz, hP, hK, hD0, hN, hbs, hXW⟩, hNC⟩ := hv
  have hx := B.exec
  have hb := B.bytes
  have hr := B.returns
  have hts := atoms_spec (ws := wsL_addDish) B.pre
  have hown : s.vm.findClass RL = some m.cls := findClass_of_methodNamed B.named
  have hlocks := B.notSynchronized
  have htab := vx_table (x := yL_addDish) B (hts _ List.mem_cons_self)
  subst hsz
  have hD := hD0.self (sz := s.heap.size)
  generalize hAe : va_A ((wFm aF aN aT aL aO aH aP aX ++ (wSt cI aN S ++ (wHi cS aH ah G ++ (wZs cI ah Z)))) ++ wOt cJ ao f) s.heap.size = A at hD ⊢
  have hA : ∀ q : Nat, s.heap.size ≤ q → A q := fun q h => by rw [← hAe]; exact Or.inr h
  have hS : va_S A s.heap s.heap [] := va_S.rf
  have hP : va_P (dC, dI) vwCl ((wFm aF aN aT aL aO aH aP aX ++ (wSt cI aN S ++ (wHi cS aH ah G ++ (wZs cI ah Z)))) ++ wOt cJ ao f) s.heap := hP
  have hK3 := hK.sub (tys' := tyS cI cZ cS) [0, 1, 2] rfl
  have hl := lv_entry ([.ref (aF 0), .int p1, .int p2, .int p3, .int p4, .ref ao]) (n := 7) (Nat.le_of_ble_eq_true rfl)
  rw [lg_entry_eq]
  generalize (lg_sl ([.ref (aF 0), .int p1, .int p2, .int p3, .int p4, .ref ao]) ++ List.replicate (7 - (lg_sl ([.ref (aF 0), .int p1, .int p2, .int p3, .int p4, .ref ao])).length) Slot.unset).toArray = ls at hl ⊢
  have hl : lv_has ls 7 [(0, .ref (aF 0)), (1, .int p1), (2, .int p2), (3, .int p3), (4, .int p4), (5, .ref ao)] := hl
  refine lv_aload hx hb dL_addDish_0 (lv_at hl 5 rfl) ?_
  refine lv_iconst (v := (0 : Int32)) hx hb dL_addDish_2 (by decide) ?_
  refine lv_aload_n hx hb dL_addDish_3 rfl (lv_at hl 0 rfl) ?_
  refine lv_iload_n hx hb dL_addDish_4 rfl (lv_at hl 1 rfl) ?_
  refine lv_iload_n hx hb dL_addDish_5 rfl (lv_at hl 2 rfl) ?_
  refine lv_iload_n hx hb dL_addDish_6 rfl (lv_at hl 3 rfl) ?_
  refine lv_iload hx hb dL_addDish_7 (lv_at hl 4 rfl) ?_
  have hF := va_free (wc := wFm aF aN aT aL aO aH aP aX ++ (wSt cI aN S ++ (wHi cS aH ah G ++ (wZs cI ah Z)))) hD hS hA [0, 1, 2, 3, 4, 5, 6, 7, 8, 9, 10, 11, 12, 13, 14, 15, 16, 17, 18, 19, 20, 21, 22, 23, 24, 25, 26, 27, 28, 29, 30, 31, 32, 33, 34, 35, 36, 37, 38, 39, 40, 41, 42, 43, 44, 45, 46, 47, 48, 49, 50, 51, 52, 53, 54, 55, 56, 57, 58, 59, 60, 61, 62, 63, 64, 65, 66, 67, 68, 69, 70, 71, 72, 73, 74, 75, 76, 77, 78, 79] rfl
  subst hR
  refine vx_calli (vx_runV (As := [.int p1, .int p2, .int p3, .int p4]) (rest := [.int (0 : Int32), .ref ao]) ⟨hx, hb, hml, hown, hts⟩ (met_X6_addDish l hfl dC dI cI cZ cS aF aN aT aL aO aH ah aP aX S G Z base s.heap.size p1 p2 p3 p4) (cwV 4 hts gL_addDish_X6_addDish rfl rfl rfl (by decide +kernel) ⟨Nat.le_of_ble_eq_true rfl, Nat.le_of_ble_eq_true rfl⟩) (pXV (wc := wFm aF aN aT aL aO aH aP aX ++ (wSt cI aN S ++ (wHi cS aH ah G ++ (wZs cI ah Z)))) (ci := 6) (q0 := 0) hK3 hP hD0 hN hbs hXW [0, 1, 2, 3, 4, 5, 6, 7, 8, 9, 10, 11, 12, 13, 14, 15, 16, 17, 18, 19, 20, 21, 22, 23, 24, 25, 26, 27, 28, 29, 30, 31, 32, 33, 34, 35, 36, 37, 38, 39, 40, 41, 42, 43, 44, 45, 46, 47, 48, 49, 50, 51, 52, 53, 54, 55, 56, 57, 58, 59, 60, 61, 62, 63, 64, 65, 66, 67, 68, 69, 70, 71, 72, 73, 74, 75, 76, 77, 78, 79] rfl (by decide) rfl rfl) rfl rfl hl.1 rfl (lv_room (Nat.le_of_ble_eq_true rfl)) dL_addDish_9 ⟨Nat.le_of_ble_eq_true rfl, Nat.le_of_ble_eq_true rfl⟩) hS (fun q _ h => hF q h) hF (fun q _ h => hF q h) (fun E ce q9 u t H1 locs ht hvm hpx hB hz1 hk1 hS hce hcv hcl => ?_) (fun r u t H1 locs ht hvm hw hB hz1 hk1 hS => ?_)
  · obtain ⟨c, hE, hc0, hres, hB⟩ := hB
    rw [ht] at hB
    have hP := wrk2 (w2 := (wFm aF aN aT aL aO aH aP aX ++ (wSt cI aN u.1 ++ (wHi cS aH ah u.2.1 ++ (wZs cI ah u.2.2)))) ++ wOt cJ ao f) (wr := wOt cJ ao f) hP hD [0, 1, 2, 3, 4, 5, 6, 7, 8, 9, 10, 11, 12, 13, 14, 15, 16, 17, 18, 19, 20, 21, 22, 23, 24, 25, 26, 27, 28, 29, 30, 31, 32, 33, 34, 35, 36, 37, 38, 39, 40, 41, 42, 43, 44, 45, 46, 47, 48, 49, 50, 51, 52, 53, 54, 55, 56, 57, 58, 59, 60, 61, 62, 63, 64, 65, 66, 67, 68, 69, 70, 71, 72, 73, 74, 75, 76, 77, 78, 79] [80] rfl rfl (by decide) hk1 hB [1, 2, 3, 4, 5, 6, 7, 8, 9, 10, 11, 12, 13, 14, 15, 16, 17, 18, 19, 20, 21, 22, 23, 24, 25, 26, 27, 28, 29, 30, 31, 32, 33, 34, 35, 36, 37, 38, 39, 40, 41, 42, 43, 44, 45, 46, 47, 48, 49, 50, 51, 52, 53, 54, 55, 56, 57, 58, 59, 60, 61, 62, 63, 64, 65, 66, 67, 68, 69, 70, 71, 72, 73, 74, 75, 76, 77, 78, 79, 80, 0] rfl
    have hD := D_addr (w1 := (wFm aF aN aT aL aO aH aP aX ++ (wSt cI aN u.1 ++ (wHi cS aH ah u.2.1 ++ (wZs cI ah u.2.2)))) ++ wOt cJ ao f) hD rfl
    have hres2 := hres
    have hcs := hks c 0 ⟨u, hres⟩
    rcases hcs with hcs | ⟨i, hi⟩
    · exact absurd hcs hc0
    have hil : i < 2 := by
      rcases Nat.lt_or_ge i 2 with q | q
      · exact q
      · rw [List.getElem?_eq_none (by simpa using q)] at hi; cases hi
    have hik : i = 0 ∨ i = 1 := by omega
    rcases hik with rfl | rfl
    · have hc : c = 2 := (Option.some.inj hi).symm
      have hE : E = "java/lang/IllegalArgumentException" := hE.symm.trans (by rw [hc]; rfl)
      subst hE
      refine vx_catch (name := "java/lang/IllegalArgumentException") hown [] ⟨0, 14, 17, 13⟩ [⟨0, 14, 21, 15⟩] (htab.trans rfl) (fun z hz => by cases hz) (by decide) (by decide) (hts (.classLink RL 13 "java/lang/IllegalArgumentException") (by decide +kernel)) ((hXW.2.2.2.1 "java/lang/IllegalArgumentException" (by decide)).use rfl) hce hcv hcl ?_
      refine lv_astore (lv' := [(6, .ref q9), (0, .ref (aF 0)), (1, .int p1), (2, .int p2), (3, .int p3), (4, .int p4), (5, .ref ao)]) hx hb dL_addDish_17 hl (by decide) rfl (fun ls hl => ?_)
      refine lv_iconst (v := (1 : Int32)) hx hb dL_addDish_19 (by decide) ?_
      exact W.widen (k := 1) (n := 6) (Nat.le_of_ble_eq_true rfl) (Nat.le_of_ble_eq_true rfl) (W.iret (v := (1 : Int32)) hx hb hr (fun t ht hW => ⟨⟨(1 : Int32), (u, f), rfl, ⟨c, 0, hres, Or.inr ⟨0, hi, rfl⟩⟩, P_at ht hP⟩, hS.F ht⟩) hS.2.2 dL_addDish_20)
    · have hc : c = 3 := (Option.some.inj hi).symm
      have hE : E = "java/lang/IllegalStateException" := hE.symm.trans (by rw [hc]; rfl)
      subst hE
      refine vx_catch (name := "java/lang/IllegalStateException") hown [⟨0, 14, 17, 13⟩] ⟨0, 14, 21, 15⟩ [] (htab.trans rfl) (List.forall_mem_cons.mpr ⟨Or.inr ⟨by decide, "java/lang/IllegalArgumentException", (hts (.classLink RL 13 "java/lang/IllegalArgumentException") (by decide +kernel)), hNC ("java/lang/IllegalStateException", "java/lang/IllegalArgumentException") (by decide)⟩, (fun z hz => by cases hz)⟩) (by decide) (by decide) (hts (.classLink RL 15 "java/lang/IllegalStateException") (by decide +kernel)) ((hXW.2.2.2.1 "java/lang/IllegalStateException" (by decide)).use rfl) hce hcv hcl ?_
      refine lv_astore (lv' := [(6, .ref q9), (0, .ref (aF 0)), (1, .int p1), (2, .int p2), (3, .int p3), (4, .int p4), (5, .ref ao)]) hx hb dL_addDish_21 hl (by decide) rfl (fun ls hl => ?_)
      refine lv_iconst (v := (2 : Int32)) hx hb dL_addDish_23 (by decide) ?_
      exact W.widen (k := 1) (n := 6) (Nat.le_of_ble_eq_true rfl) (Nat.le_of_ble_eq_true rfl) (W.iret (v := (2 : Int32)) hx hb hr (fun t ht hW => ⟨⟨(2 : Int32), (u, f), rfl, ⟨c, 0, hres, Or.inr ⟨1, hi, rfl⟩⟩, P_at ht hP⟩, hS.F ht⟩) hS.2.2 dL_addDish_24)
  · rw [ht] at hB
    have hP := wrk2 (w2 := (wFm aF aN aT aL aO aH aP aX ++ (wSt cI aN u.1 ++ (wHi cS aH ah u.2.1 ++ (wZs cI ah u.2.2)))) ++ wOt cJ ao f) (wr := wOt cJ ao f) hP hD [0, 1, 2, 3, 4, 5, 6, 7, 8, 9, 10, 11, 12, 13, 14, 15, 16, 17, 18, 19, 20, 21, 22, 23, 24, 25, 26, 27, 28, 29, 30, 31, 32, 33, 34, 35, 36, 37, 38, 39, 40, 41, 42, 43, 44, 45, 46, 47, 48, 49, 50, 51, 52, 53, 54, 55, 56, 57, 58, 59, 60, 61, 62, 63, 64, 65, 66, 67, 68, 69, 70, 71, 72, 73, 74, 75, 76, 77, 78, 79] [80] rfl rfl (by decide) hk1 hB [1, 2, 3, 4, 5, 6, 7, 8, 9, 10, 11, 12, 13, 14, 15, 16, 17, 18, 19, 20, 21, 22, 23, 24, 25, 26, 27, 28, 29, 30, 31, 32, 33, 34, 35, 36, 37, 38, 39, 40, 41, 42, 43, 44, 45, 46, 47, 48, 49, 50, 51, 52, 53, 54, 55, 56, 57, 58, 59, 60, 61, 62, 63, 64, 65, 66, 67, 68, 69, 70, 71, 72, 73, 74, 75, 76, 77, 78, 79, 80, 0] rfl
    have hD := D_addr (w1 := (wFm aF aN aT aL aO aH aP aX ++ (wSt cI aN u.1 ++ (wHi cS aH ah u.2.1 ++ (wZs cI ah u.2.2)))) ++ wOt cJ ao f) hD rfl
    refine lv_i2l (v := r.toInt64) hx hb dL_addDish_12 rfl ?_
    refine va_last hx hb hK hP hD hS 80 3 rfl rfl (by unfold vp_in; decide) dL_addDish_13 (fun H2 locs2 hP hD hS => ?_)
    refine lv_goto (tgt := 25) hx hb dL_addDish_14 (by decide) ?_
    refine lv_iconst (v := (0 : Int32)) hx hb dL_addDish_25 (by decide) ?_
    have hP : va_P (dC, dI) vwCl ((wFm aF aN aT aL aO aH aP aX ++ (wSt cI aN u.1 ++ (wHi cS aH ah u.2.1 ++ (wZs cI ah u.2.2)))) ++ wOt cJ ao (vp_updL f 0 r.toInt64)) H2 := hP
    exact W.widen (k := 1) (n := 6) (Nat.le_of_ble_eq_true rfl) (Nat.le_of_ble_eq_true rfl) (W.iret (v := (0 : Int32)) hx hb hr (fun t ht hW => ⟨⟨(0 : Int32), (u, vp_updL f 0 r.toInt64), rfl, ⟨0, r, hw, Or.inl ⟨rfl, rfl, rfl⟩⟩, P_at ht hP⟩, hS.F ht⟩) hS.2.2 dL_addDish_26)
abbrev rm_L_leave : Room := { frames := 7, cells := 1, slots := 6, locals := 148 }
abbrev q_L_leave (dC : Nat → ClassId) (dI : Nat → Nat → Nat) (cI cZ cS cJ : ClassId) (aF aN aT aL aO aH : Nat → Nat) (ah : Nat → Nat → Nat) (aP aX : Nat → Nat) (ao : Nat) (S : Pic) (R : Pic) (Y : Pic) (G : Pic) (Z : (Nat → Pic)) (res : Int32 × Int32 × Pic × Pic × Pic × Pic × (Nat → Pic)) (A : Nat → Prop) : Array Value → State → Outcome → State → Prop := va_Qi (fun (k : Int32) (u : (Pic × Pic × Pic × Pic × (Nat → Pic)) × (Nat → Int64)) => ∃ c r : Int32, (c, r, u.1) = res ∧ wrp [1, 2, 3] c r k (u.2 0)) (fun u t => va_P (dC, dI) vwCl ((wFm aF aN aT aL aO aH aP aX ++ (wSt cI aN u.1.1 ++ (wSt cI aT u.1.2.1 ++ (wLo cI aL u.1.2.2.1 ++ (wHi cS aH ah u.1.2.2.2.1 ++ (wZs cI ah u.1.2.2.2.2)))))) ++ wOt cJ ao u.2) t.heap) A
set_option maxHeartbeats 4000000 in
set_option maxRecDepth 100000 in
theorem met_L_leave (l : Launch) (hfl : l.stackTraces = false) (dC : Nat → ClassId) (dI : Nat → Nat → Nat) (cI cZ cS cJ : ClassId) (aF aN aT aL aO aH : Nat → Nat) (ah : Nat → Nat → Nat) (aP aX : Nat → Nat) (ao : Nat) (f : Nat → Int64) (S : Pic) (R : Pic) (Y : Pic) (G : Pic) (Z : (Nat → Pic)) (base sz : Nat) (p1 : Int32) (p2 : Int32) (p3 : Int32) (res : Int32 × Int32 × Pic × Pic × Pic × Pic × (Nat → Pic)) (hR : f6_leave S R Y G Z p1 p2 p3 = res) (hks : ∀ c r, (∃ u, (c, r, u) = res) → c = 0 ∨ ∃ i : Nat, ([1, 2, 3] : List Int32)[i]? = some c) : Met l yL_leave wsL_leave rm_L_leave (va_Pc [.ref (aF 0), .int p1, .int p2, .int p3, .ref ao] (pL (dC, dI) cI cZ cS cJ ((wFm aF aN aT aL aO aH aP aX ++ (wSt cI aN S ++ (wSt cI aT R ++ (wLo cI aL Y ++ (wHi cS aH ah G ++ (wZs cI ah Z)))))) ++ wOt cJ ao f) base sz)) (q_L_leave dC dI cI cZ cS cJ aF aN aT aL aO aH ah aP aX ao S R Y G Z res (va_A ((wFm aF aN aT aL aO aH aP aX ++ (wSt cI aN S ++ (wSt cI aT R ++ (wLo cI aL Y ++ (wHi cS aH ah G ++ (wZs cI ah Z)))))) ++ wOt cJ ao f) sz)) 1 6 (va_A ((wFm aF aN aT aL aO aH aP aX ++ (wSt cI aN S ++ (wSt cI aT R ++ (wLo cI aL Y ++ (wHi cS aH ah G ++ (wZs cI ah Z)))))) ++ wOt cJ ao f) sz) := by
  refine met_ofWH (cc := cL_leave) (maxL := 6) (ret := some .int) (hh := [(0, 12, 15, 21), (0, 12, 19, 13), (0, 12, 23, 15)]) (by decide) rfl ?_
  intro p e s m args below meth c s₁ B hml hv
  obtain ⟨rfl, ⟨hsz, hP, hK, hD0, hN, hbs, hXW⟩, hNC⟩ := hv
  have hx := B.exec
  have hb := B.bytes
  have hr := B.returns
  have hts := atoms_spec (ws := wsL_leave) B.pre
  have hown : s.vm.findClass RL = some m.cls := findClass_of_methodNamed B.named
  have hlocks := B.notSynchronized
  have htab := vx_table (x := yL_leave) B (hts _ List.mem_cons_self)
  subst hsz
  have hD := hD0.self (sz := s.heap.size)
  generalize hAe : va_A ((wFm aF aN aT aL aO aH aP aX ++ (wSt cI aN S ++ (wSt cI aT R ++ (wLo cI aL Y ++ (wHi cS aH ah G ++ (wZs cI ah Z)))))) ++ wOt cJ ao f) s.heap.size = A at hD ⊢
  have hA : ∀ q : Nat, s.heap.size ≤ q → A q := fun q h => by rw [← hAe]; exact Or.inr h
  have hS : va_S A s.heap s.heap [] := va_S.rf
  have hP : va_P (dC, dI) vwCl ((wFm aF aN aT aL aO aH aP aX ++ (wSt cI aN S ++ (wSt cI aT R ++ (wLo cI aL Y ++ (wHi cS aH ah G ++ (wZs cI ah Z)))))) ++ wOt cJ ao f) s.heap := hP
  have hK3 := hK.sub (tys' := tyS cI cZ cS) [0, 1, 2] rfl
  have hl := lv_entry ([.ref (aF 0), .int p1, .int p2, .int p3, .ref ao]) (n := 6) (Nat.le_of_ble_eq_true rfl)
  rw [lg_entry_eq]
  generalize (lg_sl ([.ref (aF 0), .int p1, .int p2, .int p3, .ref ao]) ++ List.replicate (6 - (lg_sl ([.ref (aF 0), .int p1, .int p2, .int p3, .ref ao])).length) Slot.unset).toArray = ls at hl ⊢
  have hl : lv_has ls 6 [(0, .ref (aF 0)), (1, .int p1), (2, .int p2), (3, .int p3), (4, .ref ao)] := hl
  refine lv_aload hx hb dL_leave_0 (lv_at hl 4 rfl) ?_
  refine lv_iconst (v := (0 : Int32)) hx hb dL_leave_2 (by decide) ?_
  refine lv_aload_n hx hb dL_leave_3 rfl (lv_at hl 0 rfl) ?_
  refine lv_iload_n hx hb dL_leave_4 rfl (lv_at hl 1 rfl) ?_
  refine lv_iload_n hx hb dL_leave_5 rfl (lv_at hl 2 rfl) ?_
  refine lv_iload_n hx hb dL_leave_6 rfl (lv_at hl 3 rfl) ?_
  have hF := va_free (wc := wFm aF aN aT aL aO aH aP aX ++ (wSt cI aN S ++ (wSt cI aT R ++ (wLo cI aL Y ++ (wHi cS aH ah G ++ (wZs cI ah Z)))))) hD hS hA [0, 1, 2, 3, 4, 5, 6, 7, 8, 9, 10, 11, 12, 13, 14, 15, 16, 17, 18, 19, 20, 21, 22, 23, 24, 25, 26, 27, 28, 29, 30, 31, 32, 33, 34, 35, 36, 37, 38, 39, 40, 41, 42, 43, 44, 45, 46, 47, 48, 49, 50, 51, 52, 53, 54, 55, 56, 57, 58, 59, 60, 61, 62, 63, 64, 65, 66, 67, 68, 69, 70, 71, 72, 73, 74, 75, 76, 77, 78, 79, 80, 81, 82, 83, 84, 85, 86, 87, 88, 89, 90, 91, 92, 93] rfl
  subst hR
  refine vx_calli (vx_runV (As := [.int p1, .int p2, .int p3]) (rest := [.int (0 : Int32), .ref ao]) ⟨hx, hb, hml, hown, hts⟩ (met_X6_leave l hfl dC dI cI cZ cS aF aN aT aL aO aH ah aP aX S R Y G Z base s.heap.size p1 p2 p3) (cwV 3 hts gL_leave_X6_leave rfl rfl rfl (by decide +kernel) ⟨Nat.le_of_ble_eq_true rfl, Nat.le_of_ble_eq_true rfl⟩) (pXV (wc := wFm aF aN aT aL aO aH aP aX ++ (wSt cI aN S ++ (wSt cI aT R ++ (wLo cI aL Y ++ (wHi cS aH ah G ++ (wZs cI ah Z)))))) (ci := 6) (q0 := 0) hK3 hP hD0 hN hbs hXW [0, 1, 2, 3, 4, 5, 6, 7, 8, 9, 10, 11, 12, 13, 14, 15, 16, 17, 18, 19, 20, 21, 22, 23, 24, 25, 26, 27, 28, 29, 30, 31, 32, 33, 34, 35, 36, 37, 38, 39, 40, 41, 42, 43, 44, 45, 46, 47, 48, 49, 50, 51, 52, 53, 54, 55, 56, 57, 58, 59, 60, 61, 62, 63, 64, 65, 66, 67, 68, 69, 70, 71, 72, 73, 74, 75, 76, 77, 78, 79, 80, 81, 82, 83, 84, 85, 86, 87, 88, 89, 90, 91, 92, 93] rfl (by decide) rfl rfl) rfl rfl hl.1 rfl (lv_room (Nat.le_of_ble_eq_true rfl)) dL_leave_7 ⟨Nat.le_of_ble_eq_true rfl, Nat.le_of_ble_eq_true rfl⟩) hS (fun q _ h => hF q h) hF (fun q _ h => hF q h) (fun E ce q9 u t H1 locs ht hvm hpx hB hz1 hk1 hS hce hcv hcl => ?_) (fun r u t H1 locs ht hvm hw hB hz1 hk1 hS => ?_)
  · obtain ⟨c, hE, hc0, hres, hB⟩ := hB
    rw [ht] at hB
    have hP := wrk2 (w2 := (wFm aF aN aT aL aO aH aP aX ++ (wSt cI aN u.1 ++ (wSt cI aT u.2.1 ++ (wLo cI aL u.2.2.1 ++ (wHi cS aH ah u.2.2.2.1 ++ (wZs cI ah u.2.2.2.2)))))) ++ wOt cJ ao f) (wr := wOt cJ ao f) hP hD [0, 1, 2, 3, 4, 5, 6, 7, 8, 9, 10, 11, 12, 13, 14, 15, 16, 17, 18, 19, 20, 21, 22, 23, 24, 25, 26, 27, 28, 29, 30, 31, 32, 33, 34, 35, 36, 37, 38, 39, 40, 41, 42, 43, 44, 45, 46, 47, 48, 49, 50, 51, 52, 53, 54, 55, 56, 57, 58, 59, 60, 61, 62, 63, 64, 65, 66, 67, 68, 69, 70, 71, 72, 73, 74, 75, 76, 77, 78, 79, 80, 81, 82, 83, 84, 85, 86, 87, 88, 89, 90, 91, 92, 93] [94] rfl rfl (by decide) hk1 hB [1, 2, 3, 4, 5, 6, 7, 8, 9, 10, 11, 12, 13, 14, 15, 16, 17, 18, 19, 20, 21, 22, 23, 24, 25, 26, 27, 28, 29, 30, 31, 32, 33, 34, 35, 36, 37, 38, 39, 40, 41, 42, 43, 44, 45, 46, 47, 48, 49, 50, 51, 52, 53, 54, 55, 56, 57, 58, 59, 60, 61, 62, 63, 64, 65, 66, 67, 68, 69, 70, 71, 72, 73, 74, 75, 76, 77, 78, 79, 80, 81, 82, 83, 84, 85, 86, 87, 88, 89, 90, 91, 92, 93, 94, 0] rfl
    have hD := D_addr (w1 := (wFm aF aN aT aL aO aH aP aX ++ (wSt cI aN u.1 ++ (wSt cI aT u.2.1 ++ (wLo cI aL u.2.2.1 ++ (wHi cS aH ah u.2.2.2.1 ++ (wZs cI ah u.2.2.2.2)))))) ++ wOt cJ ao f) hD rfl
    have hres2 := hres
    have hcs := hks c 0 ⟨u, hres⟩
    rcases hcs with hcs | ⟨i, hi⟩
    · exact absurd hcs hc0
    have hil : i < 3 := by
      rcases Nat.lt_or_ge i 3 with q | q
      · exact q
      · rw [List.getElem?_eq_none (by simpa using q)] at hi; cases hi
    have hik : i = 0 ∨ i = 1 ∨ i = 2 := by omega
    rcases hik with rfl | rfl | rfl
    · have hc : c = 1 := (Option.some.inj hi).symm
      have hE : E = "java/lang/IndexOutOfBoundsException" := hE.symm.trans (by rw [hc]; rfl)
      subst hE
      refine vx_catch (name := "java/lang/IndexOutOfBoundsException") hown [] ⟨0, 12, 15, 21⟩ [⟨0, 12, 19, 13⟩, ⟨0, 12, 23, 15⟩] (htab.trans rfl) (fun z hz => by cases hz) (by decide) (by decide) (hts (.classLink RL 21 "java/lang/IndexOutOfBoundsException") (by decide +kernel)) ((hXW.2.2.2.1 "java/lang/IndexOutOfBoundsException" (by decide)).use rfl) hce hcv hcl ?_
      refine lv_astore (lv' := [(5, .ref q9), (0, .ref (aF 0)), (1, .int p1), (2, .int p2), (3, .int p3), (4, .ref ao)]) hx hb dL_leave_15 hl (by decide) rfl (fun ls hl => ?_)
      refine lv_iconst (v := (1 : Int32)) hx hb dL_leave_17 (by decide) ?_
      exact W.widen (k := 1) (n := 6) (Nat.le_of_ble_eq_true rfl) (Nat.le_of_ble_eq_true rfl) (W.iret (v := (1 : Int32)) hx hb hr (fun t ht hW => ⟨⟨(1 : Int32), (u, f), rfl, ⟨c, 0, hres, Or.inr ⟨0, hi, rfl⟩⟩, P_at ht hP⟩, hS.F ht⟩) hS.2.2 dL_leave_18)
    · have hc : c = 2 := (Option.some.inj hi).symm
      have hE : E = "java/lang/IllegalArgumentException" := hE.symm.trans (by rw [hc]; rfl)
      subst hE
      refine vx_catch (name := "java/lang/IllegalArgumentException") hown [⟨0, 12, 15, 21⟩] ⟨0, 12, 19, 13⟩ [⟨0, 12, 23, 15⟩] (htab.trans rfl) (List.forall_mem_cons.mpr ⟨Or.inr ⟨by decide, "java/lang/IndexOutOfBoundsException", (hts (.classLink RL 21 "java/lang/IndexOutOfBoundsException") (by decide +kernel)), hNC ("java/lang/IllegalArgumentException", "java/lang/IndexOutOfBoundsException") (by decide)⟩, (fun z hz => by cases hz)⟩) (by decide) (by decide) (hts (.classLink RL 13 "java/lang/IllegalArgumentException") (by decide +kernel)) ((hXW.2.2.2.1 "java/lang/IllegalArgumentException" (by decide)).use rfl) hce hcv hcl ?_
      refine lv_astore (lv' := [(5, .ref q9), (0, .ref (aF 0)), (1, .int p1), (2, .int p2), (3, .int p3), (4, .ref ao)]) hx hb dL_leave_19 hl (by decide) rfl (fun ls hl => ?_)
      refine lv_iconst (v := (2 : Int32)) hx hb dL_leave_21 (by decide) ?_
      exact W.widen (k := 1) (n := 6) (Nat.le_of_ble_eq_true rfl) (Nat.le_of_ble_eq_true rfl) (W.iret (v := (2 : Int32)) hx hb hr (fun t ht hW => ⟨⟨(2 : Int32), (u, f), rfl, ⟨c, 0, hres, Or.inr ⟨1, hi, rfl⟩⟩, P_at ht hP⟩, hS.F ht⟩) hS.2.2 dL_leave_22)
    · have hc : c = 3 := (Option.some.inj hi).symm
      have hE : E = "java/lang/IllegalStateException" := hE.symm.trans (by rw [hc]; rfl)
      subst hE
      refine vx_catch (name := "java/lang/IllegalStateException") hown [⟨0, 12, 15, 21⟩, ⟨0, 12, 19, 13⟩] ⟨0, 12, 23, 15⟩ [] (htab.trans rfl) (List.forall_mem_cons.mpr ⟨Or.inr ⟨by decide, "java/lang/IndexOutOfBoundsException", (hts (.classLink RL 21 "java/lang/IndexOutOfBoundsException") (by decide +kernel)), hNC ("java/lang/IllegalStateException", "java/lang/IndexOutOfBoundsException") (by decide)⟩, List.forall_mem_cons.mpr ⟨Or.inr ⟨by decide, "java/lang/IllegalArgumentException", (hts (.classLink RL 13 "java/lang/IllegalArgumentException") (by decide +kernel)), hNC ("java/lang/IllegalStateException", "java/lang/IllegalArgumentException") (by decide)⟩, (fun z hz => by cases hz)⟩⟩) (by decide) (by decide) (hts (.classLink RL 15 "java/lang/IllegalStateException") (by decide +kernel)) ((hXW.2.2.2.1 "java/lang/IllegalStateException" (by decide)).use rfl) hce hcv hcl ?_
      refine lv_astore (lv' := [(5, .ref q9), (0, .ref (aF 0)), (1, .int p1), (2, .int p2), (3, .int p3), (4, .ref ao)]) hx hb dL_leave_23 hl (by decide) rfl (fun ls hl => ?_)
      refine lv_iconst (v := (3 : Int32)) hx hb dL_leave_25 (by decide) ?_
      exact W.widen (k := 1) (n := 6) (Nat.le_of_ble_eq_true rfl) (Nat.le_of_ble_eq_true rfl) (W.iret (v := (3 : Int32)) hx hb hr (fun t ht hW => ⟨⟨(3 : Int32), (u, f), rfl, ⟨c, 0, hres, Or.inr ⟨2, hi, rfl⟩⟩, P_at ht hP⟩, hS.F ht⟩) hS.2.2 dL_leave_26)
  · rw [ht] at hB
    have hP := wrk2 (w2 := (wFm aF aN aT aL aO aH aP aX ++ (wSt cI aN u.1 ++ (wSt cI aT u.2.1 ++ (wLo cI aL u.2.2.1 ++ (wHi cS aH ah u.2.2.2.1 ++ (wZs cI ah u.2.2.2.2)))))) ++ wOt cJ ao f) (wr := wOt cJ ao f) hP hD [0, 1, 2, 3, 4, 5, 6, 7, 8, 9, 10, 11, 12, 13, 14, 15, 16, 17, 18, 19, 20, 21, 22, 23, 24, 25, 26, 27, 28, 29, 30, 31, 32, 33, 34, 35, 36, 37, 38, 39, 40, 41, 42, 43, 44, 45, 46, 47, 48, 49, 50, 51, 52, 53, 54, 55, 56, 57, 58, 59, 60, 61, 62, 63, 64, 65, 66, 67, 68, 69, 70, 71, 72, 73, 74, 75, 76, 77, 78, 79, 80, 81, 82, 83, 84, 85, 86, 87, 88, 89, 90, 91, 92, 93] [94] rfl rfl (by decide) hk1 hB [1, 2, 3, 4, 5, 6, 7, 8, 9, 10, 11, 12, 13, 14, 15, 16, 17, 18, 19, 20, 21, 22, 23, 24, 25, 26, 27, 28, 29, 30, 31, 32, 33, 34, 35, 36, 37, 38, 39, 40, 41, 42, 43, 44, 45, 46, 47, 48, 49, 50, 51, 52, 53, 54, 55, 56, 57, 58, 59, 60, 61, 62, 63, 64, 65, 66, 67, 68, 69, 70, 71, 72, 73, 74, 75, 76, 77, 78, 79, 80, 81, 82, 83, 84, 85, 86, 87, 88, 89, 90, 91, 92, 93, 94, 0] rfl
    have hD := D_addr (w1 := (wFm aF aN aT aL aO aH aP aX ++ (wSt cI aN u.1 ++ (wSt cI aT u.2.1 ++ (wLo cI aL u.2.2.1 ++ (wHi cS aH ah u.2.2.2.1 ++ (wZs cI ah u.2.2.2.2)))))) ++ wOt cJ ao f) hD rfl
    refine lv_i2l (v := r.toInt64) hx hb dL_leave_10 rfl ?_
    refine va_last hx hb hK hP hD hS 94 3 rfl rfl (by unfold vp_in; decide) dL_leave_11 (fun H2 locs2 hP hD hS => ?_)
    refine lv_goto (tgt := 27) hx hb dL_leave_12 (by decide) ?_
    refine lv_iconst (v := (0 : Int32)) hx hb dL_leave_27 (by decide) ?_
    have hP : va_P (dC, dI) vwCl ((wFm aF aN aT aL aO aH aP aX ++ (wSt cI aN u.1 ++ (wSt cI aT u.2.1 ++ (wLo cI aL u.2.2.1 ++ (wHi cS aH ah u.2.2.2.1 ++ (wZs cI ah u.2.2.2.2)))))) ++ wOt cJ ao (vp_updL f 0 r.toInt64)) H2 := hP
    exact W.widen (k := 1) (n := 6) (Nat.le_of_ble_eq_true rfl) (Nat.le_of_ble_eq_true rfl) (W.iret (v := (0 : Int32)) hx hb hr (fun t ht hW => ⟨⟨(0 : Int32), (u, vp_updL f 0 r.toInt64), rfl, ⟨0, r, hw, Or.inl ⟨rfl, rfl, rfl⟩⟩, P_at ht hP⟩, hS.F ht⟩) hS.2.2 dL_leave_28)
abbrev rm_L_addGuest : Room := { frames := 7, cells := 1, slots := 6, locals := 112 }
abbrev q_L_addGuest (dC : Nat → ClassId) (dI : Nat → Nat → Nat) (cI cZ cS cJ : ClassId) (aF aN aT aL aO aH : Nat → Nat) (ah : Nat → Nat → Nat) (aP aX : Nat → Nat) (ao : Nat) (S : Pic) (G : Pic) (Z : (Nat → Pic)) (res : Int32 × Int32 × Pic × Pic × (Nat → Pic)) (A : Nat → Prop) : Array Value → State → Outcome → State → Prop := va_Qi (fun (k : Int32) (u : (Pic × Pic × (Nat → Pic)) × (Nat → Int64)) => ∃ c r : Int32, (c, r, u.1) = res ∧ wrp [3] c r k (u.2 0)) (fun u t => va_P (dC, dI) vwCl ((wFm aF aN aT aL aO aH aP aX ++ (wSt cI aN u.1.1 ++ (wHi cS aH ah u.1.2.1 ++ (wZs cI ah u.1.2.2)))) ++ wOt cJ ao u.2) t.heap) A
set_option maxHeartbeats 4000000 in
set_option maxRecDepth 100000 in
theorem met_L_addGuest (l : Launch) (hfl : l.stackTraces = false) (dC : Nat → ClassId) (dI : Nat → Nat → Nat) (cI cZ cS cJ : ClassId) (aF aN aT aL aO aH : Nat → Nat) (ah : Nat → Nat → Nat) (aP aX : Nat → Nat) (ao : Nat) (f : Nat → Int64) (S : Pic) (G : Pic) (Z : (Nat → Pic)) (base sz : Nat)  (res : Int32 × Int32 × Pic × Pic × (Nat → Pic)) (hR : f6_addGuest S G Z = res) (hks : ∀ c r, (∃ u, (c, r, u) = res) → c = 0 ∨ ∃ i : Nat, ([3] : List Int32)[i]? = some c) : Met l yL_addGuest wsL_addGuest rm_L_addGuest (va_Pc [.ref (aF 0), .ref ao] (pL (dC, dI) cI cZ cS cJ ((wFm aF aN aT aL aO aH aP aX ++ (wSt cI aN S ++ (wHi cS aH ah G ++ (wZs cI ah Z)))) ++ wOt cJ ao f) base sz)) (q_L_addGuest dC dI cI cZ cS cJ aF aN aT aL aO aH ah aP aX ao S G Z res (va_A ((wFm aF aN aT aL aO aH aP aX ++ (wSt cI aN S ++ (wHi cS aH ah G ++ (wZs cI ah Z)))) ++ wOt cJ ao f) sz)) 1 6 (va_A ((wFm aF aN aT aL aO aH aP aX ++ (wSt cI aN S ++ (wHi cS aH ah G ++ (wZs cI ah Z)))) ++ wOt cJ ao f) sz) := by
  refine met_ofWH (cc := cL_addGuest) (maxL := 3) (ret := some .int) (hh := [(0, 8, 11, 15)]) (by decide) rfl ?_
  intro p e s m args below meth c s₁ B hml hv
  obtain ⟨rfl, ⟨hsz, hP, hK, hD0, hN, hbs, hXW⟩, hNC⟩ := hv
  have hx := B.exec
  have hb := B.bytes
  have hr := B.returns
  have hts := atoms_spec (ws := wsL_addGuest) B.pre
  have hown : s.vm.findClass RL = some m.cls := findClass_of_methodNamed B.named
  have hlocks := B.notSynchronized
  have htab := vx_table (x := yL_addGuest) B (hts _ List.mem_cons_self)
  subst hsz
  have hD := hD0.self (sz := s.heap.size)
  generalize hAe : va_A ((wFm aF aN aT aL aO aH aP aX ++ (wSt cI aN S ++ (wHi cS aH ah G ++ (wZs cI ah Z)))) ++ wOt cJ ao f) s.heap.size = A at hD ⊢
  have hA : ∀ q : Nat, s.heap.size ≤ q → A q := fun q h => by rw [← hAe]; exact Or.inr h
  have hS : va_S A s.heap s.heap [] := va_S.rf
  have hP : va_P (dC, dI) vwCl ((wFm aF aN aT aL aO aH aP aX ++ (wSt cI aN S ++ (wHi cS aH ah G ++ (wZs cI ah Z)))) ++ wOt cJ ao f) s.heap := hP
  have hK3 := hK.sub (tys' := tyS cI cZ cS) [0, 1, 2] rfl
  have hl := lv_entry ([.ref (aF 0), .ref ao]) (n := 3) (Nat.le_of_ble_eq_true rfl)
  rw [lg_entry_eq]
  generalize (lg_sl ([.ref (aF 0), .ref ao]) ++ List.replicate (3 - (lg_sl ([.ref (aF 0), .ref ao])).length) Slot.unset).toArray = ls at hl ⊢
  have hl : lv_has ls 3 [(0, .ref (aF 0)), (1, .ref ao)] := hl
  refine lv_aload_n hx hb dL_addGuest_0 rfl (lv_at hl 1 rfl) ?_
  refine lv_iconst (v := (0 : Int32)) hx hb dL_addGuest_1 (by decide) ?_
  refine lv_aload_n hx hb dL_addGuest_2 rfl (lv_at hl 0 rfl) ?_
  have hF := va_free (wc := wFm aF aN aT aL aO aH aP aX ++ (wSt cI aN S ++ (wHi cS aH ah G ++ (wZs cI ah Z)))) hD hS hA [0, 1, 2, 3, 4, 5, 6, 7, 8, 9, 10, 11, 12, 13, 14, 15, 16, 17, 18, 19, 20, 21, 22, 23, 24, 25, 26, 27, 28, 29, 30, 31, 32, 33, 34, 35, 36, 37, 38, 39, 40, 41, 42, 43, 44, 45, 46, 47, 48, 49, 50, 51, 52, 53, 54, 55, 56, 57, 58, 59, 60, 61, 62, 63, 64, 65, 66, 67, 68, 69, 70, 71, 72, 73, 74, 75, 76, 77, 78, 79] rfl
  subst hR
  refine vx_calli (vx_runV (As := []) (rest := [.int (0 : Int32), .ref ao]) ⟨hx, hb, hml, hown, hts⟩ (met_X6_addGuest l hfl dC dI cI cZ cS aF aN aT aL aO aH ah aP aX S G Z base s.heap.size) (cwV 0 hts gL_addGuest_X6_addGuest rfl rfl rfl (by decide +kernel) ⟨Nat.le_of_ble_eq_true rfl, Nat.le_of_ble_eq_true rfl⟩) (pXV (wc := wFm aF aN aT aL aO aH aP aX ++ (wSt cI aN S ++ (wHi cS aH ah G ++ (wZs cI ah Z)))) (ci := 6) (q0 := 0) hK3 hP hD0 hN hbs hXW [0, 1, 2, 3, 4, 5, 6, 7, 8, 9, 10, 11, 12, 13, 14, 15, 16, 17, 18, 19, 20, 21, 22, 23, 24, 25, 26, 27, 28, 29, 30, 31, 32, 33, 34, 35, 36, 37, 38, 39, 40, 41, 42, 43, 44, 45, 46, 47, 48, 49, 50, 51, 52, 53, 54, 55, 56, 57, 58, 59, 60, 61, 62, 63, 64, 65, 66, 67, 68, 69, 70, 71, 72, 73, 74, 75, 76, 77, 78, 79] rfl (by decide) rfl rfl) rfl rfl hl.1 rfl (lv_room (Nat.le_of_ble_eq_true rfl)) dL_addGuest_3 ⟨Nat.le_of_ble_eq_true rfl, Nat.le_of_ble_eq_true rfl⟩) hS (fun q _ h => hF q h) hF (fun q _ h => hF q h) (fun E ce q9 u t H1 locs ht hvm hpx hB hz1 hk1 hS hce hcv hcl => ?_) (fun r u t H1 locs ht hvm hw hB hz1 hk1 hS => ?_)
  · obtain ⟨c, hE, hc0, hres, hB⟩ := hB
    rw [ht] at hB
    have hP := wrk2 (w2 := (wFm aF aN aT aL aO aH aP aX ++ (wSt cI aN u.1 ++ (wHi cS aH ah u.2.1 ++ (wZs cI ah u.2.2)))) ++ wOt cJ ao f) (wr := wOt cJ ao f) hP hD [0, 1, 2, 3, 4, 5, 6, 7, 8, 9, 10, 11, 12, 13, 14, 15, 16, 17, 18, 19, 20, 21, 22, 23, 24, 25, 26, 27, 28, 29, 30, 31, 32, 33, 34, 35, 36, 37, 38, 39, 40, 41, 42, 43, 44, 45, 46, 47, 48, 49, 50, 51, 52, 53, 54, 55, 56, 57, 58, 59, 60, 61, 62, 63, 64, 65, 66, 67, 68, 69, 70, 71, 72, 73, 74, 75, 76, 77, 78, 79] [80] rfl rfl (by decide) hk1 hB [1, 2, 3, 4, 5, 6, 7, 8, 9, 10, 11, 12, 13, 14, 15, 16, 17, 18, 19, 20, 21, 22, 23, 24, 25, 26, 27, 28, 29, 30, 31, 32, 33, 34, 35, 36, 37, 38, 39, 40, 41, 42, 43, 44, 45, 46, 47, 48, 49, 50, 51, 52, 53, 54, 55, 56, 57, 58, 59, 60, 61, 62, 63, 64, 65, 66, 67, 68, 69, 70, 71, 72, 73, 74, 75, 76, 77, 78, 79, 80, 0] rfl
    have hD := D_addr (w1 := (wFm aF aN aT aL aO aH aP aX ++ (wSt cI aN u.1 ++ (wHi cS aH ah u.2.1 ++ (wZs cI ah u.2.2)))) ++ wOt cJ ao f) hD rfl
    have hres2 := hres
    have hcs := hks c 0 ⟨u, hres⟩
    rcases hcs with hcs | ⟨i, hi⟩
    · exact absurd hcs hc0
    have hil : i < 1 := by
      rcases Nat.lt_or_ge i 1 with q | q
      · exact q
      · rw [List.getElem?_eq_none (by simpa using q)] at hi; cases hi
    have hik : i = 0 := by omega
    rcases hik with rfl
    · have hc : c = 3 := (Option.some.inj hi).symm
      have hE : E = "java/lang/IllegalStateException" := hE.symm.trans (by rw [hc]; rfl)
      subst hE
      refine vx_catch (name := "java/lang/IllegalStateException") hown [] ⟨0, 8, 11, 15⟩ [] (htab.trans rfl) (fun z hz => by cases hz) (by decide) (by decide) (hts (.classLink RL 15 "java/lang/IllegalStateException") (by decide +kernel)) ((hXW.2.2.2.1 "java/lang/IllegalStateException" (by decide)).use rfl) hce hcv hcl ?_
      refine lv_astore_n (lv' := [(2, .ref q9), (0, .ref (aF 0)), (1, .ref ao)]) hx hb dL_addGuest_11 rfl hl (by decide) rfl (fun ls hl => ?_)
      refine lv_iconst (v := (1 : Int32)) hx hb dL_addGuest_12 (by decide) ?_
      exact W.widen (k := 1) (n := 6) (Nat.le_of_ble_eq_true rfl) (Nat.le_of_ble_eq_true rfl) (W.iret (v := (1 : Int32)) hx hb hr (fun t ht hW => ⟨⟨(1 : Int32), (u, f), rfl, ⟨c, 0, hres, Or.inr ⟨0, hi, rfl⟩⟩, P_at ht hP⟩, hS.F ht⟩) hS.2.2 dL_addGuest_13)
  · rw [ht] at hB
    have hP := wrk2 (w2 := (wFm aF aN aT aL aO aH aP aX ++ (wSt cI aN u.1 ++ (wHi cS aH ah u.2.1 ++ (wZs cI ah u.2.2)))) ++ wOt cJ ao f) (wr := wOt cJ ao f) hP hD [0, 1, 2, 3, 4, 5, 6, 7, 8, 9, 10, 11, 12, 13, 14, 15, 16, 17, 18, 19, 20, 21, 22, 23, 24, 25, 26, 27, 28, 29, 30, 31, 32, 33, 34, 35, 36, 37, 38, 39, 40, 41, 42, 43, 44, 45, 46, 47, 48, 49, 50, 51, 52, 53, 54, 55, 56, 57, 58, 59, 60, 61, 62, 63, 64, 65, 66, 67, 68, 69, 70, 71, 72, 73, 74, 75, 76, 77, 78, 79] [80] rfl rfl (by decide) hk1 hB [1, 2, 3, 4, 5, 6, 7, 8, 9, 10, 11, 12, 13, 14, 15, 16, 17, 18, 19, 20, 21, 22, 23, 24, 25, 26, 27, 28, 29, 30, 31, 32, 33, 34, 35, 36, 37, 38, 39, 40, 41, 42, 43, 44, 45, 46, 47, 48, 49, 50, 51, 52, 53, 54, 55, 56, 57, 58, 59, 60, 61, 62, 63, 64, 65, 66, 67, 68, 69, 70, 71, 72, 73, 74, 75, 76, 77, 78, 79, 80, 0] rfl
    have hD := D_addr (w1 := (wFm aF aN aT aL aO aH aP aX ++ (wSt cI aN u.1 ++ (wHi cS aH ah u.2.1 ++ (wZs cI ah u.2.2)))) ++ wOt cJ ao f) hD rfl
    refine lv_i2l (v := r.toInt64) hx hb dL_addGuest_6 rfl ?_
    refine va_last hx hb hK hP hD hS 80 3 rfl rfl (by unfold vp_in; decide) dL_addGuest_7 (fun H2 locs2 hP hD hS => ?_)
    refine lv_goto (tgt := 14) hx hb dL_addGuest_8 (by decide) ?_
    refine lv_iconst (v := (0 : Int32)) hx hb dL_addGuest_14 (by decide) ?_
    have hP : va_P (dC, dI) vwCl ((wFm aF aN aT aL aO aH aP aX ++ (wSt cI aN u.1 ++ (wHi cS aH ah u.2.1 ++ (wZs cI ah u.2.2)))) ++ wOt cJ ao (vp_updL f 0 r.toInt64)) H2 := hP
    exact W.widen (k := 1) (n := 6) (Nat.le_of_ble_eq_true rfl) (Nat.le_of_ble_eq_true rfl) (W.iret (v := (0 : Int32)) hx hb hr (fun t ht hW => ⟨⟨(0 : Int32), (u, vp_updL f 0 r.toInt64), rfl, ⟨0, r, hw, Or.inl ⟨rfl, rfl, rfl⟩⟩, P_at ht hP⟩, hS.F ht⟩) hS.2.2 dL_addGuest_15)
abbrev rm_L_come : Room := { frames := 7, cells := 1, slots := 6, locals := 135 }
abbrev q_L_come (dC : Nat → ClassId) (dI : Nat → Nat → Nat) (cI cZ cS cJ : ClassId) (aF aN aT aL aO aH : Nat → Nat) (ah : Nat → Nat → Nat) (aP aX : Nat → Nat) (ao : Nat) (S : Pic) (R : Pic) (G : Pic) (Z : (Nat → Pic)) (res : Int32 × Int32 × Pic × Pic × Pic × (Nat → Pic)) (A : Nat → Prop) : Array Value → State → Outcome → State → Prop := va_Qi (fun (k : Int32) (u : (Pic × Pic × Pic × (Nat → Pic)) × (Nat → Int64)) => ∃ c r : Int32, (c, r, u.1) = res ∧ wrp [1, 2, 3] c r k (u.2 0)) (fun u t => va_P (dC, dI) vwCl ((wFm aF aN aT aL aO aH aP aX ++ (wSt cI aN u.1.1 ++ (wSt cI aT u.1.2.1 ++ (wHi cS aH ah u.1.2.2.1 ++ (wZs cI ah u.1.2.2.2))))) ++ wOt cJ ao u.2) t.heap) A
set_option maxHeartbeats 4000000 in
set_option maxRecDepth 100000 in
theorem met_L_come (l : Launch) (hfl : l.stackTraces = false) (dC : Nat → ClassId) (dI : Nat → Nat → Nat) (cI cZ cS cJ : ClassId) (aF aN aT aL aO aH : Nat → Nat) (ah : Nat → Nat → Nat) (aP aX : Nat → Nat) (ao : Nat) (f : Nat → Int64) (S : Pic) (R : Pic) (G : Pic) (Z : (Nat → Pic)) (base sz : Nat) (p1 : Int32) (p2 : Int32) (res : Int32 × Int32 × Pic × Pic × Pic × (Nat → Pic)) (hR : f6_come S R G Z p1 p2 = res) (hks : ∀ c r, (∃ u, (c, r, u) = res) → c = 0 ∨ ∃ i : Nat, ([1, 2, 3] : List Int32)[i]? = some c) : Met l yL_come wsL_come rm_L_come (va_Pc [.ref (aF 0), .int p1, .int p2, .ref ao] (pL (dC, dI) cI cZ cS cJ ((wFm aF aN aT aL aO aH aP aX ++ (wSt cI aN S ++ (wSt cI aT R ++ (wHi cS aH ah G ++ (wZs cI ah Z))))) ++ wOt cJ ao f) base sz)) (q_L_come dC dI cI cZ cS cJ aF aN aT aL aO aH ah aP aX ao S R G Z res (va_A ((wFm aF aN aT aL aO aH aP aX ++ (wSt cI aN S ++ (wSt cI aT R ++ (wHi cS aH ah G ++ (wZs cI ah Z))))) ++ wOt cJ ao f) sz)) 1 6 (va_A ((wFm aF aN aT aL aO aH aP aX ++ (wSt cI aN S ++ (wSt cI aT R ++ (wHi cS aH ah G ++ (wZs cI ah Z))))) ++ wOt cJ ao f) sz) := by
  refine met_ofWH (cc := cL_come) (maxL := 5) (ret := some .int) (hh := [(0, 10, 13, 21), (0, 10, 17, 13), (0, 10, 21, 15)]) (by decide) rfl ?_
  intro p e s m args below meth c s₁ B hml hv
  obtain ⟨rfl, ⟨hsz, hP, hK, hD0, hN, hbs, hXW⟩, hNC⟩ := hv
  have hx := B.exec
  have hb := B.bytes
  have hr := B.returns
  have hts := atoms_spec (ws := wsL_come) B.pre
  have hown : s.vm.findClass RL = some m.cls := findClass_of_methodNamed B.named
  have hlocks := B.notSynchronized
  have htab := vx_table (x := yL_come) B (hts _ List.mem_cons_self)
  subst hsz
  have hD := hD0.self (sz := s.heap.size)
  generalize hAe : va_A ((wFm aF aN aT aL aO aH aP aX ++ (wSt cI aN S ++ (wSt cI aT R ++ (wHi cS aH ah G ++ (wZs cI ah Z))))) ++ wOt cJ ao f) s.heap.size = A at hD ⊢
  have hA : ∀ q : Nat, s.heap.size ≤ q → A q := fun q h => by rw [← hAe]; exact Or.inr h
  have hS : va_S A s.heap s.heap [] := va_S.rf
  have hP : va_P (dC, dI) vwCl ((wFm aF aN aT aL aO aH aP aX ++ (wSt cI aN S ++ (wSt cI aT R ++ (wHi cS aH ah G ++ (wZs cI ah Z))))) ++ wOt cJ ao f) s.heap := hP
  have hK3 := hK.sub (tys' := tyS cI cZ cS) [0, 1, 2] rfl
  have hl := lv_entry ([.ref (aF 0), .int p1, .int p2, .ref ao]) (n := 5) (Nat.le_of_ble_eq_true rfl)
  rw [lg_entry_eq]
  generalize (lg_sl ([.ref (aF 0), .int p1, .int p2, .ref ao]) ++ List.replicate (5 - (lg_sl ([.ref (aF 0), .int p1, .int p2, .ref ao])).length) Slot.unset).toArray = ls at hl ⊢
  have hl : lv_has ls 5 [(0, .ref (aF 0)), (1, .int p1), (2, .int p2), (3, .ref ao)] := hl
  refine lv_aload_n hx hb dL_come_0 rfl (lv_at hl 3 rfl) ?_
  refine lv_iconst (v := (0 : Int32)) hx hb dL_come_1 (by decide) ?_
  refine lv_aload_n hx hb dL_come_2 rfl (lv_at hl 0 rfl) ?_
  refine lv_iload_n hx hb dL_come_3 rfl (lv_at hl 1 rfl) ?_
  refine lv_iload_n hx hb dL_come_4 rfl (lv_at hl 2 rfl) ?_
  have hF := va_free (wc := wFm aF aN aT aL aO aH aP aX ++ (wSt cI aN S ++ (wSt cI aT R ++ (wHi cS aH ah G ++ (wZs cI ah Z))))) hD hS hA [0, 1, 2, 3, 4, 5, 6, 7, 8, 9, 10, 11, 12, 13, 14, 15, 16, 17, 18, 19, 20, 21, 22, 23, 24, 25, 26, 27, 28, 29, 30, 31, 32, 33, 34, 35, 36, 37, 38, 39, 40, 41, 42, 43, 44, 45, 46, 47, 48, 49, 50, 51, 52, 53, 54, 55, 56, 57, 58, 59, 60, 61, 62, 63, 64, 65, 66, 67, 68, 69, 70, 71, 72, 73, 74, 75, 76, 77, 78, 79, 80, 81, 82, 83, 84, 85, 86, 87, 88, 89, 90] rfl
  subst hR
  refine vx_calli (vx_runV (As := [.int p1, .int p2]) (rest := [.int (0 : Int32), .ref ao]) ⟨hx, hb, hml, hown, hts⟩ (met_X6_come l hfl dC dI cI cZ cS aF aN aT aL aO aH ah aP aX S R G Z base s.heap.size p1 p2) (cwV 2 hts gL_come_X6_come rfl rfl rfl (by decide +kernel) ⟨Nat.le_of_ble_eq_true rfl, Nat.le_of_ble_eq_true rfl⟩) (pXV (wc := wFm aF aN aT aL aO aH aP aX ++ (wSt cI aN S ++ (wSt cI aT R ++ (wHi cS aH ah G ++ (wZs cI ah Z))))) (ci := 6) (q0 := 0) hK3 hP hD0 hN hbs hXW [0, 1, 2, 3, 4, 5, 6, 7, 8, 9, 10, 11, 12, 13, 14, 15, 16, 17, 18, 19, 20, 21, 22, 23, 24, 25, 26, 27, 28, 29, 30, 31, 32, 33, 34, 35, 36, 37, 38, 39, 40, 41, 42, 43, 44, 45, 46, 47, 48, 49, 50, 51, 52, 53, 54, 55, 56, 57, 58, 59, 60, 61, 62, 63, 64, 65, 66, 67, 68, 69, 70, 71, 72, 73, 74, 75, 76, 77, 78, 79, 80, 81, 82, 83, 84, 85, 86, 87, 88, 89, 90] rfl (by decide) rfl rfl) rfl rfl hl.1 rfl (lv_room (Nat.le_of_ble_eq_true rfl)) dL_come_5 ⟨Nat.le_of_ble_eq_true rfl, Nat.le_of_ble_eq_true rfl⟩) hS (fun q _ h => hF q h) hF (fun q _ h => hF q h) (fun E ce q9 u t H1 locs ht hvm hpx hB hz1 hk1 hS hce hcv hcl => ?_) (fun r u t H1 locs ht hvm hw hB hz1 hk1 hS => ?_)
  · obtain ⟨c, hE, hc0, hres, hB⟩ := hB
    rw [ht] at hB
    have hP := wrk2 (w2 := (wFm aF aN aT aL aO aH aP aX ++ (wSt cI aN u.1 ++ (wSt cI aT u.2.1 ++ (wHi cS aH ah u.2.2.1 ++ (wZs cI ah u.2.2.2))))) ++ wOt cJ ao f) (wr := wOt cJ ao f) hP hD [0, 1, 2, 3, 4, 5, 6, 7, 8, 9, 10, 11, 12, 13, 14, 15, 16, 17, 18, 19, 20, 21, 22, 23, 24, 25, 26, 27, 28, 29, 30, 31, 32, 33, 34, 35, 36, 37, 38, 39, 40, 41, 42, 43, 44, 45, 46, 47, 48, 49, 50, 51, 52, 53, 54, 55, 56, 57, 58, 59, 60, 61, 62, 63, 64, 65, 66, 67, 68, 69, 70, 71, 72, 73, 74, 75, 76, 77, 78, 79, 80, 81, 82, 83, 84, 85, 86, 87, 88, 89, 90] [91] rfl rfl (by decide) hk1 hB [1, 2, 3, 4, 5, 6, 7, 8, 9, 10, 11, 12, 13, 14, 15, 16, 17, 18, 19, 20, 21, 22, 23, 24, 25, 26, 27, 28, 29, 30, 31, 32, 33, 34, 35, 36, 37, 38, 39, 40, 41, 42, 43, 44, 45, 46, 47, 48, 49, 50, 51, 52, 53, 54, 55, 56, 57, 58, 59, 60, 61, 62, 63, 64, 65, 66, 67, 68, 69, 70, 71, 72, 73, 74, 75, 76, 77, 78, 79, 80, 81, 82, 83, 84, 85, 86, 87, 88, 89, 90, 91, 0] rfl
    have hD := D_addr (w1 := (wFm aF aN aT aL aO aH aP aX ++ (wSt cI aN u.1 ++ (wSt cI aT u.2.1 ++ (wHi cS aH ah u.2.2.1 ++ (wZs cI ah u.2.2.2))))) ++ wOt cJ ao f) hD rfl
    have hres2 := hres
    have hcs := hks c 0 ⟨u, hres⟩
    rcases hcs with hcs | ⟨i, hi⟩
    · exact absurd hcs hc0
    have hil : i < 3 := by
      rcases Nat.lt_or_ge i 3 with q | q
      · exact q
      · rw [List.getElem?_eq_none (by simpa using q)] at hi; cases hi
    have hik : i = 0 ∨ i = 1 ∨ i = 2 := by omega
    rcases hik with rfl | rfl | rfl
    · have hc : c = 1 := (Option.some.inj hi).symm
      have hE : E = "java/lang/IndexOutOfBoundsException" := hE.symm.trans (by rw [hc]; rfl)
      subst hE
      refine vx_catch (name := "java/lang/IndexOutOfBoundsException") hown [] ⟨0, 10, 13, 21⟩ [⟨0, 10, 17, 13⟩, ⟨0, 10, 21, 15⟩] (htab.trans rfl) (fun z hz => by cases hz) (by decide) (by decide) (hts (.classLink RL 21 "java/lang/IndexOutOfBoundsException") (by decide +kernel)) ((hXW.2.2.2.1 "java/lang/IndexOutOfBoundsException" (by decide)).use rfl) hce hcv hcl ?_
      refine lv_astore (lv' := [(4, .ref q9), (0, .ref (aF 0)), (1, .int p1), (2, .int p2), (3, .ref ao)]) hx hb dL_come_13 hl (by decide) rfl (fun ls hl => ?_)
      refine lv_iconst (v := (1 : Int32)) hx hb dL_come_15 (by decide) ?_
      exact W.widen (k := 1) (n := 6) (Nat.le_of_ble_eq_true rfl) (Nat.le_of_ble_eq_true rfl) (W.iret (v := (1 : Int32)) hx hb hr (fun t ht hW => ⟨⟨(1 : Int32), (u, f), rfl, ⟨c, 0, hres, Or.inr ⟨0, hi, rfl⟩⟩, P_at ht hP⟩, hS.F ht⟩) hS.2.2 dL_come_16)
    · have hc : c = 2 := (Option.some.inj hi).symm
      have hE : E = "java/lang/IllegalArgumentException" := hE.symm.trans (by rw [hc]; rfl)
      subst hE
      refine vx_catch (name := "java/lang/IllegalArgumentException") hown [⟨0, 10, 13, 21⟩] ⟨0, 10, 17, 13⟩ [⟨0, 10, 21, 15⟩] (htab.trans rfl) (List.forall_mem_cons.mpr ⟨Or.inr ⟨by decide, "java/lang/IndexOutOfBoundsException", (hts (.classLink RL 21 "java/lang/IndexOutOfBoundsException") (by decide +kernel)), hNC ("java/lang/IllegalArgumentException", "java/lang/IndexOutOfBoundsException") (by decide)⟩, (fun z hz => by cases hz)⟩) (by decide) (by decide) (hts (.classLink RL 13 "java/lang/IllegalArgumentException") (by decide +kernel)) ((hXW.2.2.2.1 "java/lang/IllegalArgumentException" (by decide)).use rfl) hce hcv hcl ?_
      refine lv_astore (lv' := [(4, .ref q9), (0, .ref (aF 0)), (1, .int p1), (2, .int p2), (3, .ref ao)]) hx hb dL_come_17 hl (by decide) rfl (fun ls hl => ?_)
      refine lv_iconst (v := (2 : Int32)) hx hb dL_come_19 (by decide) ?_
      exact W.widen (k := 1) (n := 6) (Nat.le_of_ble_eq_true rfl) (Nat.le_of_ble_eq_true rfl) (W.iret (v := (2 : Int32)) hx hb hr (fun t ht hW => ⟨⟨(2 : Int32), (u, f), rfl, ⟨c, 0, hres, Or.inr ⟨1, hi, rfl⟩⟩, P_at ht hP⟩, hS.F ht⟩) hS.2.2 dL_come_20)
    · have hc : c = 3 := (Option.some.inj hi).symm
      have hE : E = "java/lang/IllegalStateException" := hE.symm.trans (by rw [hc]; rfl)
      subst hE
      refine vx_catch (name := "java/lang/IllegalStateException") hown [⟨0, 10, 13, 21⟩, ⟨0, 10, 17, 13⟩] ⟨0, 10, 21, 15⟩ [] (htab.trans rfl) (List.forall_mem_cons.mpr ⟨Or.inr ⟨by decide, "java/lang/IndexOutOfBoundsException", (hts (.classLink RL 21 "java/lang/IndexOutOfBoundsException") (by decide +kernel)), hNC ("java/lang/IllegalStateException", "java/lang/IndexOutOfBoundsException") (by decide)⟩, List.forall_mem_cons.mpr ⟨Or.inr ⟨by decide, "java/lang/IllegalArgumentException", (hts (.classLink RL 13 "java/lang/IllegalArgumentException") (by decide +kernel)), hNC ("java/lang/IllegalStateException", "java/lang/IllegalArgumentException") (by decide)⟩, (fun z hz => by cases hz)⟩⟩) (by decide) (by decide) (hts (.classLink RL 15 "java/lang/IllegalStateException") (by decide +kernel)) ((hXW.2.2.2.1 "java/lang/IllegalStateException" (by decide)).use rfl) hce hcv hcl ?_
      refine lv_astore (lv' := [(4, .ref q9), (0, .ref (aF 0)), (1, .int p1), (2, .int p2), (3, .ref ao)]) hx hb dL_come_21 hl (by decide) rfl (fun ls hl => ?_)
      refine lv_iconst (v := (3 : Int32)) hx hb dL_come_23 (by decide) ?_
      exact W.widen (k := 1) (n := 6) (Nat.le_of_ble_eq_true rfl) (Nat.le_of_ble_eq_true rfl) (W.iret (v := (3 : Int32)) hx hb hr (fun t ht hW => ⟨⟨(3 : Int32), (u, f), rfl, ⟨c, 0, hres, Or.inr ⟨2, hi, rfl⟩⟩, P_at ht hP⟩, hS.F ht⟩) hS.2.2 dL_come_24)
  · rw [ht] at hB
    have hP := wrk2 (w2 := (wFm aF aN aT aL aO aH aP aX ++ (wSt cI aN u.1 ++ (wSt cI aT u.2.1 ++ (wHi cS aH ah u.2.2.1 ++ (wZs cI ah u.2.2.2))))) ++ wOt cJ ao f) (wr := wOt cJ ao f) hP hD [0, 1, 2, 3, 4, 5, 6, 7, 8, 9, 10, 11, 12, 13, 14, 15, 16, 17, 18, 19, 20, 21, 22, 23, 24, 25, 26, 27, 28, 29, 30, 31, 32, 33, 34, 35, 36, 37, 38, 39, 40, 41, 42, 43, 44, 45, 46, 47, 48, 49, 50, 51, 52, 53, 54, 55, 56, 57, 58, 59, 60, 61, 62, 63, 64, 65, 66, 67, 68, 69, 70, 71, 72, 73, 74, 75, 76, 77, 78, 79, 80, 81, 82, 83, 84, 85, 86, 87, 88, 89, 90] [91] rfl rfl (by decide) hk1 hB [1, 2, 3, 4, 5, 6, 7, 8, 9, 10, 11, 12, 13, 14, 15, 16, 17, 18, 19, 20, 21, 22, 23, 24, 25, 26, 27, 28, 29, 30, 31, 32, 33, 34, 35, 36, 37, 38, 39, 40, 41, 42, 43, 44, 45, 46, 47, 48, 49, 50, 51, 52, 53, 54, 55, 56, 57, 58, 59, 60, 61, 62, 63, 64, 65, 66, 67, 68, 69, 70, 71, 72, 73, 74, 75, 76, 77, 78, 79, 80, 81, 82, 83, 84, 85, 86, 87, 88, 89, 90, 91, 0] rfl
    have hD := D_addr (w1 := (wFm aF aN aT aL aO aH aP aX ++ (wSt cI aN u.1 ++ (wSt cI aT u.2.1 ++ (wHi cS aH ah u.2.2.1 ++ (wZs cI ah u.2.2.2))))) ++ wOt cJ ao f) hD rfl
    refine lv_i2l (v := r.toInt64) hx hb dL_come_8 rfl ?_
    refine va_last hx hb hK hP hD hS 91 3 rfl rfl (by unfold vp_in; decide) dL_come_9 (fun H2 locs2 hP hD hS => ?_)
    refine lv_goto (tgt := 25) hx hb dL_come_10 (by decide) ?_
    refine lv_iconst (v := (0 : Int32)) hx hb dL_come_25 (by decide) ?_
    have hP : va_P (dC, dI) vwCl ((wFm aF aN aT aL aO aH aP aX ++ (wSt cI aN u.1 ++ (wSt cI aT u.2.1 ++ (wHi cS aH ah u.2.2.1 ++ (wZs cI ah u.2.2.2))))) ++ wOt cJ ao (vp_updL f 0 r.toInt64)) H2 := hP
    exact W.widen (k := 1) (n := 6) (Nat.le_of_ble_eq_true rfl) (Nat.le_of_ble_eq_true rfl) (W.iret (v := (0 : Int32)) hx hb hr (fun t ht hW => ⟨⟨(0 : Int32), (u, vp_updL f 0 r.toInt64), rfl, ⟨0, r, hw, Or.inl ⟨rfl, rfl, rfl⟩⟩, P_at ht hP⟩, hS.F ht⟩) hS.2.2 dL_come_26)
abbrev rm_L_veto : Room := { frames := 7, cells := 1, slots := 6, locals := 135 }
abbrev q_L_veto (dC : Nat → ClassId) (dI : Nat → Nat → Nat) (cI cZ cS cJ : ClassId) (aF aN aT aL aO aH : Nat → Nat) (ah : Nat → Nat → Nat) (aP aX : Nat → Nat) (ao : Nat) (S : Pic) (R : Pic) (G : Pic) (Z : (Nat → Pic)) (res : Int32 × Int32 × Pic × Pic × Pic × (Nat → Pic)) (A : Nat → Prop) : Array Value → State → Outcome → State → Prop := va_Qi (fun (k : Int32) (u : (Pic × Pic × Pic × (Nat → Pic)) × (Nat → Int64)) => ∃ c r : Int32, (c, r, u.1) = res ∧ wrp [1, 2, 3] c r k (u.2 0)) (fun u t => va_P (dC, dI) vwCl ((wFm aF aN aT aL aO aH aP aX ++ (wSt cI aN u.1.1 ++ (wSt cI aT u.1.2.1 ++ (wHi cS aH ah u.1.2.2.1 ++ (wZs cI ah u.1.2.2.2))))) ++ wOt cJ ao u.2) t.heap) A
set_option maxHeartbeats 4000000 in
set_option maxRecDepth 100000 in
theorem met_L_veto (l : Launch) (hfl : l.stackTraces = false) (dC : Nat → ClassId) (dI : Nat → Nat → Nat) (cI cZ cS cJ : ClassId) (aF aN aT aL aO aH : Nat → Nat) (ah : Nat → Nat → Nat) (aP aX : Nat → Nat) (ao : Nat) (f : Nat → Int64) (S : Pic) (R : Pic) (G : Pic) (Z : (Nat → Pic)) (base sz : Nat) (p1 : Int32) (p2 : Int32) (res : Int32 × Int32 × Pic × Pic × Pic × (Nat → Pic)) (hR : f6_veto S R G Z p1 p2 = res) (hks : ∀ c r, (∃ u, (c, r, u) = res) → c = 0 ∨ ∃ i : Nat, ([1, 2, 3] : List Int32)[i]? = some c) : Met l yL_veto wsL_veto rm_L_veto (va_Pc [.ref (aF 0), .int p1, .int p2, .ref ao] (pL (dC, dI) cI cZ cS cJ ((wFm aF aN aT aL aO aH aP aX ++ (wSt cI aN S ++ (wSt cI aT R ++ (wHi cS aH ah G ++ (wZs cI ah Z))))) ++ wOt cJ ao f) base sz)) (q_L_veto dC dI cI cZ cS cJ aF aN aT aL aO aH ah aP aX ao S R G Z res (va_A ((wFm aF aN aT aL aO aH aP aX ++ (wSt cI aN S ++ (wSt cI aT R ++ (wHi cS aH ah G ++ (wZs cI ah Z))))) ++ wOt cJ ao f) sz)) 1 6 (va_A ((wFm aF aN aT aL aO aH aP aX ++ (wSt cI aN S ++ (wSt cI aT R ++ (wHi cS aH ah G ++ (wZs cI ah Z))))) ++ wOt cJ ao f) sz) := by
  refine met_ofWH (cc := cL_veto) (maxL := 5) (ret := some .int) (hh := [(0, 10, 13, 21), (0, 10, 17, 13), (0, 10, 21, 15)]) (by decide) rfl ?_
  intro p e s m args below meth c s₁ B hml hv
  obtain ⟨rfl, ⟨hsz, hP, hK, hD0, hN, hbs, hXW⟩, hNC⟩ := hv
  have hx := B.exec
  have hb := B.bytes
  have hr := B.returns
  have hts := atoms_spec (ws := wsL_veto) B.pre
  have hown : s.vm.findClass RL = some m.cls := findClass_of_methodNamed B.named
  have hlocks := B.notSynchronized
  have htab := vx_table (x := yL_veto) B (hts _ List.mem_cons_self)
  subst hsz
  have hD := hD0.self (sz := s.heap.size)
  generalize hAe : va_A ((wFm aF aN aT aL aO aH aP aX ++ (wSt cI aN S ++ (wSt cI aT R ++ (wHi cS aH ah G ++ (wZs cI ah Z))))) ++ wOt cJ ao f) s.heap.size = A at hD ⊢
  have hA : ∀ q : Nat, s.heap.size ≤ q → A q := fun q h => by rw [← hAe]; exact Or.inr h
  have hS : va_S A s.heap s.heap [] := va_S.rf
  have hP : va_P (dC, dI) vwCl ((wFm aF aN aT aL aO aH aP aX ++ (wSt cI aN S ++ (wSt cI aT R ++ (wHi cS aH ah G ++ (wZs cI ah Z))))) ++ wOt cJ ao f) s.heap := hP
  have hK3 := hK.sub (tys' := tyS cI cZ cS) [0, 1, 2] rfl
  have hl := lv_entry ([.ref (aF 0), .int p1, .int p2, .ref ao]) (n := 5) (Nat.le_of_ble_eq_true rfl)
  rw [lg_entry_eq]
  generalize (lg_sl ([.ref (aF 0), .int p1, .int p2, .ref ao]) ++ List.replicate (5 - (lg_sl ([.ref (aF 0), .int p1, .int p2, .ref ao])).length) Slot.unset).toArray = ls at hl ⊢
  have hl : lv_has ls 5 [(0, .ref (aF 0)), (1, .int p1), (2, .int p2), (3, .ref ao)] := hl
  refine lv_aload_n hx hb dL_veto_0 rfl (lv_at hl 3 rfl) ?_
  refine lv_iconst (v := (0 : Int32)) hx hb dL_veto_1 (by decide) ?_
  refine lv_aload_n hx hb dL_veto_2 rfl (lv_at hl 0 rfl) ?_
  refine lv_iload_n hx hb dL_veto_3 rfl (lv_at hl 1 rfl) ?_
  refine lv_iload_n hx hb dL_veto_4 rfl (lv_at hl 2 rfl) ?_
  have hF := va_free (wc := wFm aF aN aT aL aO aH aP aX ++ (wSt cI aN S ++ (wSt cI aT R ++ (wHi cS aH ah G ++ (wZs cI ah Z))))) hD hS hA [0, 1, 2, 3, 4, 5, 6, 7, 8, 9, 10, 11, 12, 13, 14, 15, 16, 17, 18, 19, 20, 21, 22, 23, 24, 25, 26, 27, 28, 29, 30, 31, 32, 33, 34, 35, 36, 37, 38, 39, 40, 41, 42, 43, 44, 45, 46, 47, 48, 49, 50, 51, 52, 53, 54, 55, 56, 57, 58, 59, 60, 61, 62, 63, 64, 65, 66, 67, 68, 69, 70, 71, 72, 73, 74, 75, 76, 77, 78, 79, 80, 81, 82, 83, 84, 85, 86, 87, 88, 89, 90] rfl
  subst hR
  refine vx_calli (vx_runV (As := [.int p1, .int p2]) (rest := [.int (0 : Int32), .ref ao]) ⟨hx, hb, hml, hown, hts⟩ (met_X6_veto l hfl dC dI cI cZ cS aF aN aT aL aO aH ah aP aX S R G Z base s.heap.size p1 p2) (cwV 2 hts gL_veto_X6_veto rfl rfl rfl (by decide +kernel) ⟨Nat.le_of_ble_eq_true rfl, Nat.le_of_ble_eq_true rfl⟩) (pXV (wc := wFm aF aN aT aL aO aH aP aX ++ (wSt cI aN S ++ (wSt cI aT R ++ (wHi cS aH ah G ++ (wZs cI ah Z))))) (ci := 6) (q0 := 0) hK3 hP hD0 hN hbs hXW [0, 1, 2, 3, 4, 5, 6, 7, 8, 9, 10, 11, 12, 13, 14, 15, 16, 17, 18, 19, 20, 21, 22, 23, 24, 25, 26, 27, 28, 29, 30, 31, 32, 33, 34, 35, 36, 37, 38, 39, 40, 41, 42, 43, 44, 45, 46, 47, 48, 49, 50, 51, 52, 53, 54, 55, 56, 57, 58, 59, 60, 61, 62, 63, 64, 65, 66, 67, 68, 69, 70, 71, 72, 73, 74, 75, 76, 77, 78, 79, 80, 81, 82, 83, 84, 85, 86, 87, 88, 89, 90] rfl (by decide) rfl rfl) rfl rfl hl.1 rfl (lv_room (Nat.le_of_ble_eq_true rfl)) dL_veto_5 ⟨Nat.le_of_ble_eq_true rfl, Nat.le_of_ble_eq_true rfl⟩) hS (fun q _ h => hF q h) hF (fun q _ h => hF q h) (fun E ce q9 u t H1 locs ht hvm hpx hB hz1 hk1 hS hce hcv hcl => ?_) (fun r u t H1 locs ht hvm hw hB hz1 hk1 hS => ?_)
  · obtain ⟨c, hE, hc0, hres, hB⟩ := hB
    rw [ht] at hB
    have hP := wrk2 (w2 := (wFm aF aN aT aL aO aH aP aX ++ (wSt cI aN u.1 ++ (wSt cI aT u.2.1 ++ (wHi cS aH ah u.2.2.1 ++ (wZs cI ah u.2.2.2))))) ++ wOt cJ ao f) (wr := wOt cJ ao f) hP hD [0, 1, 2, 3, 4, 5, 6, 7, 8, 9, 10, 11, 12, 13, 14, 15, 16, 17, 18, 19, 20, 21, 22, 23, 24, 25, 26, 27, 28, 29, 30, 31, 32, 33, 34, 35, 36, 37, 38, 39, 40, 41, 42, 43, 44, 45, 46, 47, 48, 49, 50, 51, 52, 53, 54, 55, 56, 57, 58, 59, 60, 61, 62, 63, 64, 65, 66, 67, 68, 69, 70, 71, 72, 73, 74, 75, 76, 77, 78, 79, 80, 81, 82, 83, 84, 85, 86, 87, 88, 89, 90] [91] rfl rfl (by decide) hk1 hB [1, 2, 3, 4, 5, 6, 7, 8, 9, 10, 11, 12, 13, 14, 15, 16, 17, 18, 19, 20, 21, 22, 23, 24, 25, 26, 27, 28, 29, 30, 31, 32, 33, 34, 35, 36, 37, 38, 39, 40, 41, 42, 43, 44, 45, 46, 47, 48, 49, 50, 51, 52, 53, 54, 55, 56, 57, 58, 59, 60, 61, 62, 63, 64, 65, 66, 67, 68, 69, 70, 71, 72, 73, 74, 75, 76, 77, 78, 79, 80, 81, 82, 83, 84, 85, 86, 87, 88, 89, 90, 91, 0] rfl
    have hD := D_addr (w1 := (wFm aF aN aT aL aO aH aP aX ++ (wSt cI aN u.1 ++ (wSt cI aT u.2.1 ++ (wHi cS aH ah u.2.2.1 ++ (wZs cI ah u.2.2.2))))) ++ wOt cJ ao f) hD rfl
    have hres2 := hres
    have hcs := hks c 0 ⟨u, hres⟩
    rcases hcs with hcs | ⟨i, hi⟩
    · exact absurd hcs hc0
    have hil : i < 3 := by
      rcases Nat.lt_or_ge i 3 with q | q
      · exact q
      · rw [List.getElem?_eq_none (by simpa using q)] at hi; cases hi
    have hik : i = 0 ∨ i = 1 ∨ i = 2 := by omega
    rcases hik with rfl | rfl | rfl
    · have hc : c = 1 := (Option.some.inj hi).symm
      have hE : E = "java/lang/IndexOutOfBoundsException" := hE.symm.trans (by rw [hc]; rfl)
      subst hE
      refine vx_catch (name := "java/lang/IndexOutOfBoundsException") hown [] ⟨0, 10, 13, 21⟩ [⟨0, 10, 17, 13⟩, ⟨0, 10, 21, 15⟩] (htab.trans rfl) (fun z hz => by cases hz) (by decide) (by decide) (hts (.classLink RL 21 "java/lang/IndexOutOfBoundsException") (by decide +kernel)) ((hXW.2.2.2.1 "java/lang/IndexOutOfBoundsException" (by decide)).use rfl) hce hcv hcl ?_
      refine lv_astore (lv' := [(4, .ref q9), (0, .ref (aF 0)), (1, .int p1), (2, .int p2), (3, .ref ao)]) hx hb dL_veto_13 hl (by decide) rfl (fun ls hl => ?_)
      refine lv_iconst (v := (1 : Int32)) hx hb dL_veto_15 (by decide) ?_
      exact W.widen (k := 1) (n := 6) (Nat.le_of_ble_eq_true rfl) (Nat.le_of_ble_eq_true rfl) (W.iret (v := (1 : Int32)) hx hb hr (fun t ht hW => ⟨⟨(1 : Int32), (u, f), rfl, ⟨c, 0, hres, Or.inr ⟨0, hi, rfl⟩⟩, P_at ht hP⟩, hS.F ht⟩) hS.2.2 dL_veto_16)
    · have hc : c = 2 := (Option.some.inj hi).symm
      have hE : E = "java/lang/IllegalArgumentException" := hE.symm.trans (by rw [hc]; rfl)
      subst hE
      refine vx_catch (name := "java/lang/IllegalArgumentException") hown [⟨0, 10, 13, 21⟩] ⟨0, 10, 17, 13⟩ [⟨0, 10, 21, 15⟩] (htab.trans rfl) (List.forall_mem_cons.mpr ⟨Or.inr ⟨by decide, "java/lang/IndexOutOfBoundsException", (hts (.classLink RL 21 "java/lang/IndexOutOfBoundsException") (by decide +kernel)), hNC ("java/lang/IllegalArgumentException", "java/lang/IndexOutOfBoundsException") (by decide)⟩, (fun z hz => by cases hz)⟩) (by decide) (by decide) (hts (.classLink RL 13 "java/lang/IllegalArgumentException") (by decide +kernel)) ((hXW.2.2.2.1 "java/lang/IllegalArgumentException" (by decide)).use rfl) hce hcv hcl ?_
      refine lv_astore (lv' := [(4, .ref q9), (0, .ref (aF 0)), (1, .int p1), (2, .int p2), (3, .ref ao)]) hx hb dL_veto_17 hl (by decide) rfl (fun ls hl => ?_)
      refine lv_iconst (v := (2 : Int32)) hx hb dL_veto_19 (by decide) ?_
      exact W.widen (k := 1) (n := 6) (Nat.le_of_ble_eq_true rfl) (Nat.le_of_ble_eq_true rfl) (W.iret (v := (2 : Int32)) hx hb hr (fun t ht hW => ⟨⟨(2 : Int32), (u, f), rfl, ⟨c, 0, hres, Or.inr ⟨1, hi, rfl⟩⟩, P_at ht hP⟩, hS.F ht⟩) hS.2.2 dL_veto_20)
    · have hc : c = 3 := (Option.some.inj hi).symm
      have hE : E = "java/lang/IllegalStateException" := hE.symm.trans (by rw [hc]; rfl)
      subst hE
      refine vx_catch (name := "java/lang/IllegalStateException") hown [⟨0, 10, 13, 21⟩, ⟨0, 10, 17, 13⟩] ⟨0, 10, 21, 15⟩ [] (htab.trans rfl) (List.forall_mem_cons.mpr ⟨Or.inr ⟨by decide, "java/lang/IndexOutOfBoundsException", (hts (.classLink RL 21 "java/lang/IndexOutOfBoundsException") (by decide +kernel)), hNC ("java/lang/IllegalStateException", "java/lang/IndexOutOfBoundsException") (by decide)⟩, List.forall_mem_cons.mpr ⟨Or.inr ⟨by decide, "java/lang/IllegalArgumentException", (hts (.classLink RL 13 "java/lang/IllegalArgumentException") (by decide +kernel)), hNC ("java/lang/IllegalStateException", "java/lang/IllegalArgumentException") (by decide)⟩, (fun z hz => by cases hz)⟩⟩) (by decide) (by decide) (hts (.classLink RL 15 "java/lang/IllegalStateException") (by decide +kernel)) ((hXW.2.2.2.1 "java/lang/IllegalStateException" (by decide)).use rfl) hce hcv hcl ?_
      refine lv_astore (lv' := [(4, .ref q9), (0, .ref (aF 0)), (1, .int p1), (2, .int p2), (3, .ref ao)]) hx hb dL_veto_21 hl (by decide) rfl (fun ls hl => ?_)
      refine lv_iconst (v := (3 : Int32)) hx hb dL_veto_23 (by decide) ?_
      exact W.widen (k := 1) (n := 6) (Nat.le_of_ble_eq_true rfl) (Nat.le_of_ble_eq_true rfl) (W.iret (v := (3 : Int32)) hx hb hr (fun t ht hW => ⟨⟨(3 : Int32), (u, f), rfl, ⟨c, 0, hres, Or.inr ⟨2, hi, rfl⟩⟩, P_at ht hP⟩, hS.F ht⟩) hS.2.2 dL_veto_24)
  · rw [ht] at hB
    have hP := wrk2 (w2 := (wFm aF aN aT aL aO aH aP aX ++ (wSt cI aN u.1 ++ (wSt cI aT u.2.1 ++ (wHi cS aH ah u.2.2.1 ++ (wZs cI ah u.2.2.2))))) ++ wOt cJ ao f) (wr := wOt cJ ao f) hP hD [0, 1, 2, 3, 4, 5, 6, 7, 8, 9, 10, 11, 12, 13, 14, 15, 16, 17, 18, 19, 20, 21, 22, 23, 24, 25, 26, 27, 28, 29, 30, 31, 32, 33, 34, 35, 36, 37, 38, 39, 40, 41, 42, 43, 44, 45, 46, 47, 48, 49, 50, 51, 52, 53, 54, 55, 56, 57, 58, 59, 60, 61, 62, 63, 64, 65, 66, 67, 68, 69, 70, 71, 72, 73, 74, 75, 76, 77, 78, 79, 80, 81, 82, 83, 84, 85, 86, 87, 88, 89, 90] [91] rfl rfl (by decide) hk1 hB [1, 2, 3, 4, 5, 6, 7, 8, 9, 10, 11, 12, 13, 14, 15, 16, 17, 18, 19, 20, 21, 22, 23, 24, 25, 26, 27, 28, 29, 30, 31, 32, 33, 34, 35, 36, 37, 38, 39, 40, 41, 42, 43, 44, 45, 46, 47, 48, 49, 50, 51, 52, 53, 54, 55, 56, 57, 58, 59, 60, 61, 62, 63, 64, 65, 66, 67, 68, 69, 70, 71, 72, 73, 74, 75, 76, 77, 78, 79, 80, 81, 82, 83, 84, 85, 86, 87, 88, 89, 90, 91, 0] rfl
    have hD := D_addr (w1 := (wFm aF aN aT aL aO aH aP aX ++ (wSt cI aN u.1 ++ (wSt cI aT u.2.1 ++ (wHi cS aH ah u.2.2.1 ++ (wZs cI ah u.2.2.2))))) ++ wOt cJ ao f) hD rfl
    refine lv_i2l (v := r.toInt64) hx hb dL_veto_8 rfl ?_
    refine va_last hx hb hK hP hD hS 91 3 rfl rfl (by unfold vp_in; decide) dL_veto_9 (fun H2 locs2 hP hD hS => ?_)
    refine lv_goto (tgt := 25) hx hb dL_veto_10 (by decide) ?_
    refine lv_iconst (v := (0 : Int32)) hx hb dL_veto_25 (by decide) ?_
    have hP : va_P (dC, dI) vwCl ((wFm aF aN aT aL aO aH aP aX ++ (wSt cI aN u.1 ++ (wSt cI aT u.2.1 ++ (wHi cS aH ah u.2.2.1 ++ (wZs cI ah u.2.2.2))))) ++ wOt cJ ao (vp_updL f 0 r.toInt64)) H2 := hP
    exact W.widen (k := 1) (n := 6) (Nat.le_of_ble_eq_true rfl) (Nat.le_of_ble_eq_true rfl) (W.iret (v := (0 : Int32)) hx hb hr (fun t ht hW => ⟨⟨(0 : Int32), (u, vp_updL f 0 r.toInt64), rfl, ⟨0, r, hw, Or.inl ⟨rfl, rfl, rfl⟩⟩, P_at ht hP⟩, hS.F ht⟩) hS.2.2 dL_veto_26)
abbrev rm_L_set : Room := { frames := 7, cells := 1, slots := 6, locals := 135 }
abbrev q_L_set (dC : Nat → ClassId) (dI : Nat → Nat → Nat) (cI cZ cS cJ : ClassId) (aF aN aT aL aO aH : Nat → Nat) (ah : Nat → Nat → Nat) (aP aX : Nat → Nat) (ao : Nat) (S : Pic) (R : Pic) (G : Pic) (Z : (Nat → Pic)) (res : Int32 × Int32 × Pic × Pic × Pic × (Nat → Pic)) (A : Nat → Prop) : Array Value → State → Outcome → State → Prop := va_Qi (fun (k : Int32) (u : (Pic × Pic × Pic × (Nat → Pic)) × (Nat → Int64)) => ∃ c r : Int32, (c, r, u.1) = res ∧ wrp [1, 2, 3] c r k (u.2 0)) (fun u t => va_P (dC, dI) vwCl ((wFm aF aN aT aL aO aH aP aX ++ (wSt cI aN u.1.1 ++ (wSt cI aT u.1.2.1 ++ (wHi cS aH ah u.1.2.2.1 ++ (wZs cI ah u.1.2.2.2))))) ++ wOt cJ ao u.2) t.heap) A
set_option maxHeartbeats 4000000 in
set_option maxRecDepth 100000 in
theorem met_L_set (l : Launch) (hfl : l.stackTraces = false) (dC : Nat → ClassId) (dI : Nat → Nat → Nat) (cI cZ cS cJ : ClassId) (aF aN aT aL aO aH : Nat → Nat) (ah : Nat → Nat → Nat) (aP aX : Nat → Nat) (ao : Nat) (f : Nat → Int64) (S : Pic) (R : Pic) (G : Pic) (Z : (Nat → Pic)) (base sz : Nat) (p1 : Int32) (p2 : Int32) (res : Int32 × Int32 × Pic × Pic × Pic × (Nat → Pic)) (hR : f6_set S R G Z p1 p2 = res) (hks : ∀ c r, (∃ u, (c, r, u) = res) → c = 0 ∨ ∃ i : Nat, ([1, 2, 3] : List Int32)[i]? = some c) : Met l yL_set wsL_set rm_L_set (va_Pc [.ref (aF 0), .int p1, .int p2, .ref ao] (pL (dC, dI) cI cZ cS cJ ((wFm aF aN aT aL aO aH aP aX ++ (wSt cI aN S ++ (wSt cI aT R ++ (wHi cS aH ah G ++ (wZs cI ah Z))))) ++ wOt cJ ao f) base sz)) (q_L_set dC dI cI cZ cS cJ aF aN aT aL aO aH ah aP aX ao S R G Z res (va_A ((wFm aF aN aT aL aO aH aP aX ++ (wSt cI aN S ++ (wSt cI aT R ++ (wHi cS aH ah G ++ (wZs cI ah Z))))) ++ wOt cJ ao f) sz)) 1 6 (va_A ((wFm aF aN aT aL aO aH aP aX ++ (wSt cI aN S ++ (wSt cI aT R ++ (wHi cS aH ah G ++ (wZs cI ah Z))))) ++ wOt cJ ao f) sz) := by
  refine met_ofWH (cc := cL_set) (maxL := 5) (ret := some .int) (hh := [(0, 10, 13, 21), (0, 10, 17, 13), (0, 10, 21, 15)]) (by decide) rfl ?_
  intro p e s m args below meth c s₁ B hml hv
  obtain ⟨rfl, ⟨hsz, hP, hK, hD0, hN, hbs, hXW⟩, hNC⟩ := hv
  have hx := B.exec
  have hb := B.bytes
  have hr := B.returns
  have hts := atoms_spec (ws := wsL_set) B.pre
  have hown : s.vm.findClass RL = some m.cls := findClass_of_methodNamed B.named
  have hlocks := B.notSynchronized
  have htab := vx_table (x := yL_set) B (hts _ List.mem_cons_self)
  subst hsz
  have hD := hD0.self (sz := s.heap.size)
  generalize hAe : va_A ((wFm aF aN aT aL aO aH aP aX ++ (wSt cI aN S ++ (wSt cI aT R ++ (wHi cS aH ah G ++ (wZs cI ah Z))))) ++ wOt cJ ao f) s.heap.size = A at hD ⊢
  have hA : ∀ q : Nat, s.heap.size ≤ q → A q := fun q h => by rw [← hAe]; exact Or.inr h
  have hS : va_S A s.heap s.heap [] := va_S.rf
  have hP : va_P (dC, dI) vwCl ((wFm aF aN aT aL aO aH aP aX ++ (wSt cI aN S ++ (wSt cI aT R ++ (wHi cS aH ah G ++ (wZs cI ah Z))))) ++ wOt cJ ao f) s.heap := hP
  have hK3 := hK.sub (tys' := tyS cI cZ cS) [0, 1, 2] rfl
  have hl := lv_entry ([.ref (aF 0), .int p1, .int p2, .ref ao]) (n := 5) (Nat.le_of_ble_eq_true rfl)
  rw [lg_entry_eq]
  generalize (lg_sl ([.ref (aF 0), .int p1, .int p2, .ref ao]) ++ List.replicate (5 - (lg_sl ([.ref (aF 0), .int p1, .int p2, .ref ao])).length) Slot.unset).toArray = ls at hl ⊢
  have hl : lv_has ls 5 [(0, .ref (aF 0)), (1, .int p1), (2, .int p2), (3, .ref ao)] := hl
  refine lv_aload_n hx hb dL_set_0 rfl (lv_at hl 3 rfl) ?_
  refine lv_iconst (v := (0 : Int32)) hx hb dL_set_1 (by decide) ?_
  refine lv_aload_n hx hb dL_set_2 rfl (lv_at hl 0 rfl) ?_
  refine lv_iload_n hx hb dL_set_3 rfl (lv_at hl 1 rfl) ?_
  refine lv_iload_n hx hb dL_set_4 rfl (lv_at hl 2 rfl) ?_
  have hF := va_free (wc := wFm aF aN aT aL aO aH aP aX ++ (wSt cI aN S ++ (wSt cI aT R ++ (wHi cS aH ah G ++ (wZs cI ah Z))))) hD hS hA [0, 1, 2, 3, 4, 5, 6, 7, 8, 9, 10, 11, 12, 13, 14, 15, 16, 17, 18, 19, 20, 21, 22, 23, 24, 25, 26, 27, 28, 29, 30, 31, 32, 33, 34, 35, 36, 37, 38, 39, 40, 41, 42, 43, 44, 45, 46, 47, 48, 49, 50, 51, 52, 53, 54, 55, 56, 57, 58, 59, 60, 61, 62, 63, 64, 65, 66, 67, 68, 69, 70, 71, 72, 73, 74, 75, 76, 77, 78, 79, 80, 81, 82, 83, 84, 85, 86, 87, 88, 89, 90] rfl
  subst hR
  refine vx_calli (vx_runV (As := [.int p1, .int p2]) (rest := [.int (0 : Int32), .ref ao]) ⟨hx, hb, hml, hown, hts⟩ (met_X6_set l hfl dC dI cI cZ cS aF aN aT aL aO aH ah aP aX S R G Z base s.heap.size p1 p2) (cwV 2 hts gL_set_X6_set rfl rfl rfl (by decide +kernel) ⟨Nat.le_of_ble_eq_true rfl, Nat.le_of_ble_eq_true rfl⟩) (pXV (wc := wFm aF aN aT aL aO aH aP aX ++ (wSt cI aN S ++ (wSt cI aT R ++ (wHi cS aH ah G ++ (wZs cI ah Z))))) (ci := 6) (q0 := 0) hK3 hP hD0 hN hbs hXW [0, 1, 2, 3, 4, 5, 6, 7, 8, 9, 10, 11, 12, 13, 14, 15, 16, 17, 18, 19, 20, 21, 22, 23, 24, 25, 26, 27, 28, 29, 30, 31, 32, 33, 34, 35, 36, 37, 38, 39, 40, 41, 42, 43, 44, 45, 46, 47, 48, 49, 50, 51, 52, 53, 54, 55, 56, 57, 58, 59, 60, 61, 62, 63, 64, 65, 66, 67, 68, 69, 70, 71, 72, 73, 74, 75, 76, 77, 78, 79, 80, 81, 82, 83, 84, 85, 86, 87, 88, 89, 90] rfl (by decide) rfl rfl) rfl rfl hl.1 rfl (lv_room (Nat.le_of_ble_eq_true rfl)) dL_set_5 ⟨Nat.le_of_ble_eq_true rfl, Nat.le_of_ble_eq_true rfl⟩) hS (fun q _ h => hF q h) hF (fun q _ h => hF q h) (fun E ce q9 u t H1 locs ht hvm hpx hB hz1 hk1 hS hce hcv hcl => ?_) (fun r u t H1 locs ht hvm hw hB hz1 hk1 hS => ?_)
  · obtain ⟨c, hE, hc0, hres, hB⟩ := hB
    rw [ht] at hB
    have hP := wrk2 (w2 := (wFm aF aN aT aL aO aH aP aX ++ (wSt cI aN u.1 ++ (wSt cI aT u.2.1 ++ (wHi cS aH ah u.2.2.1 ++ (wZs cI ah u.2.2.2))))) ++ wOt cJ ao f) (wr := wOt cJ ao f) hP hD [0, 1, 2, 3, 4, 5, 6, 7, 8, 9, 10, 11, 12, 13, 14, 15, 16, 17, 18, 19, 20, 21, 22, 23, 24, 25, 26, 27, 28, 29, 30, 31, 32, 33, 34, 35, 36, 37, 38, 39, 40, 41, 42, 43, 44, 45, 46, 47, 48, 49, 50, 51, 52, 53, 54, 55, 56, 57, 58, 59, 60, 61, 62, 63, 64, 65, 66, 67, 68, 69, 70, 71, 72, 73, 74, 75, 76, 77, 78, 79, 80, 81, 82, 83, 84, 85, 86, 87, 88, 89, 90] [91] rfl rfl (by decide) hk1 hB [1, 2, 3, 4, 5, 6, 7, 8, 9, 10, 11, 12, 13, 14, 15, 16, 17, 18, 19, 20, 21, 22, 23, 24, 25, 26, 27, 28, 29, 30, 31, 32, 33, 34, 35, 36, 37, 38, 39, 40, 41, 42, 43, 44, 45, 46, 47, 48, 49, 50, 51, 52, 53, 54, 55, 56, 57, 58, 59, 60, 61, 62, 63, 64, 65, 66, 67, 68, 69, 70, 71, 72, 73, 74, 75, 76, 77, 78, 79, 80, 81, 82, 83, 84, 85, 86, 87, 88, 89, 90, 91, 0] rfl
    have hD := D_addr (w1 := (wFm aF aN aT aL aO aH aP aX ++ (wSt cI aN u.1 ++ (wSt cI aT u.2.1 ++ (wHi cS aH ah u.2.2.1 ++ (wZs cI ah u.2.2.2))))) ++ wOt cJ ao f) hD rfl
    have hres2 := hres
    have hcs := hks c 0 ⟨u, hres⟩
    rcases hcs with hcs | ⟨i, hi⟩
    · exact absurd hcs hc0
    have hil : i < 3 := by
      rcases Nat.lt_or_ge i 3 with q | q
      · exact q
      · rw [List.getElem?_eq_none (by simpa using q)] at hi; cases hi
    have hik : i = 0 ∨ i = 1 ∨ i = 2 := by omega
    rcases hik with rfl | rfl | rfl
    · have hc : c = 1 := (Option.some.inj hi).symm
      have hE : E = "java/lang/IndexOutOfBoundsException" := hE.symm.trans (by rw [hc]; rfl)
      subst hE
      refine vx_catch (name := "java/lang/IndexOutOfBoundsException") hown [] ⟨0, 10, 13, 21⟩ [⟨0, 10, 17, 13⟩, ⟨0, 10, 21, 15⟩] (htab.trans rfl) (fun z hz => by cases hz) (by decide) (by decide) (hts (.classLink RL 21 "java/lang/IndexOutOfBoundsException") (by decide +kernel)) ((hXW.2.2.2.1 "java/lang/IndexOutOfBoundsException" (by decide)).use rfl) hce hcv hcl ?_
      refine lv_astore (lv' := [(4, .ref q9), (0, .ref (aF 0)), (1, .int p1), (2, .int p2), (3, .ref ao)]) hx hb dL_set_13 hl (by decide) rfl (fun ls hl => ?_)
      refine lv_iconst (v := (1 : Int32)) hx hb dL_set_15 (by decide) ?_
      exact W.widen (k := 1) (n := 6) (Nat.le_of_ble_eq_true rfl) (Nat.le_of_ble_eq_true rfl) (W.iret (v := (1 : Int32)) hx hb hr (fun t ht hW => ⟨⟨(1 : Int32), (u, f), rfl, ⟨c, 0, hres, Or.inr ⟨0, hi, rfl⟩⟩, P_at ht hP⟩, hS.F ht⟩) hS.2.2 dL_set_16)
    · have hc : c = 2 := (Option.some.inj hi).symm
      have hE : E = "java/lang/IllegalArgumentException" := hE.symm.trans (by rw [hc]; rfl)
      subst hE
      refine vx_catch (name := "java/lang/IllegalArgumentException") hown [⟨0, 10, 13, 21⟩] ⟨0, 10, 17, 13⟩ [⟨0, 10, 21, 15⟩] (htab.trans rfl) (List.forall_mem_cons.mpr ⟨Or.inr ⟨by decide, "java/lang/IndexOutOfBoundsException", (hts (.classLink RL 21 "java/lang/IndexOutOfBoundsException") (by decide +kernel)), hNC ("java/lang/IllegalArgumentException", "java/lang/IndexOutOfBoundsException") (by decide)⟩, (fun z hz => by cases hz)⟩) (by decide) (by decide) (hts (.classLink RL 13 "java/lang/IllegalArgumentException") (by decide +kernel)) ((hXW.2.2.2.1 "java/lang/IllegalArgumentException" (by decide)).use rfl) hce hcv hcl ?_
      refine lv_astore (lv' := [(4, .ref q9), (0, .ref (aF 0)), (1, .int p1), (2, .int p2), (3, .ref ao)]) hx hb dL_set_17 hl (by decide) rfl (fun ls hl => ?_)
      refine lv_iconst (v := (2 : Int32)) hx hb dL_set_19 (by decide) ?_
      exact W.widen (k := 1) (n := 6) (Nat.le_of_ble_eq_true rfl) (Nat.le_of_ble_eq_true rfl) (W.iret (v := (2 : Int32)) hx hb hr (fun t ht hW => ⟨⟨(2 : Int32), (u, f), rfl, ⟨c, 0, hres, Or.inr ⟨1, hi, rfl⟩⟩, P_at ht hP⟩, hS.F ht⟩) hS.2.2 dL_set_20)
    · have hc : c = 3 := (Option.some.inj hi).symm
      have hE : E = "java/lang/IllegalStateException" := hE.symm.trans (by rw [hc]; rfl)
      subst hE
      refine vx_catch (name := "java/lang/IllegalStateException") hown [⟨0, 10, 13, 21⟩, ⟨0, 10, 17, 13⟩] ⟨0, 10, 21, 15⟩ [] (htab.trans rfl) (List.forall_mem_cons.mpr ⟨Or.inr ⟨by decide, "java/lang/IndexOutOfBoundsException", (hts (.classLink RL 21 "java/lang/IndexOutOfBoundsException") (by decide +kernel)), hNC ("java/lang/IllegalStateException", "java/lang/IndexOutOfBoundsException") (by decide)⟩, List.forall_mem_cons.mpr ⟨Or.inr ⟨by decide, "java/lang/IllegalArgumentException", (hts (.classLink RL 13 "java/lang/IllegalArgumentException") (by decide +kernel)), hNC ("java/lang/IllegalStateException", "java/lang/IllegalArgumentException") (by decide)⟩, (fun z hz => by cases hz)⟩⟩) (by decide) (by decide) (hts (.classLink RL 15 "java/lang/IllegalStateException") (by decide +kernel)) ((hXW.2.2.2.1 "java/lang/IllegalStateException" (by decide)).use rfl) hce hcv hcl ?_
      refine lv_astore (lv' := [(4, .ref q9), (0, .ref (aF 0)), (1, .int p1), (2, .int p2), (3, .ref ao)]) hx hb dL_set_21 hl (by decide) rfl (fun ls hl => ?_)
      refine lv_iconst (v := (3 : Int32)) hx hb dL_set_23 (by decide) ?_
      exact W.widen (k := 1) (n := 6) (Nat.le_of_ble_eq_true rfl) (Nat.le_of_ble_eq_true rfl) (W.iret (v := (3 : Int32)) hx hb hr (fun t ht hW => ⟨⟨(3 : Int32), (u, f), rfl, ⟨c, 0, hres, Or.inr ⟨2, hi, rfl⟩⟩, P_at ht hP⟩, hS.F ht⟩) hS.2.2 dL_set_24)
  · rw [ht] at hB
    have hP := wrk2 (w2 := (wFm aF aN aT aL aO aH aP aX ++ (wSt cI aN u.1 ++ (wSt cI aT u.2.1 ++ (wHi cS aH ah u.2.2.1 ++ (wZs cI ah u.2.2.2))))) ++ wOt cJ ao f) (wr := wOt cJ ao f) hP hD [0, 1, 2, 3, 4, 5, 6, 7, 8, 9, 10, 11, 12, 13, 14, 15, 16, 17, 18, 19, 20, 21, 22, 23, 24, 25, 26, 27, 28, 29, 30, 31, 32, 33, 34, 35, 36, 37, 38, 39, 40, 41, 42, 43, 44, 45, 46, 47, 48, 49, 50, 51, 52, 53, 54, 55, 56, 57, 58, 59, 60, 61, 62, 63, 64, 65, 66, 67, 68, 69, 70, 71, 72, 73, 74, 75, 76, 77, 78, 79, 80, 81, 82, 83, 84, 85, 86, 87, 88, 89, 90] [91] rfl rfl (by decide) hk1 hB [1, 2, 3, 4, 5, 6, 7, 8, 9, 10, 11, 12, 13, 14, 15, 16, 17, 18, 19, 20, 21, 22, 23, 24, 25, 26, 27, 28, 29, 30, 31, 32, 33, 34, 35, 36, 37, 38, 39, 40, 41, 42, 43, 44, 45, 46, 47, 48, 49, 50, 51, 52, 53, 54, 55, 56, 57, 58, 59, 60, 61, 62, 63, 64, 65, 66, 67, 68, 69, 70, 71, 72, 73, 74, 75, 76, 77, 78, 79, 80, 81, 82, 83, 84, 85, 86, 87, 88, 89, 90, 91, 0] rfl
    have hD := D_addr (w1 := (wFm aF aN aT aL aO aH aP aX ++ (wSt cI aN u.1 ++ (wSt cI aT u.2.1 ++ (wHi cS aH ah u.2.2.1 ++ (wZs cI ah u.2.2.2))))) ++ wOt cJ ao f) hD rfl
    refine lv_i2l (v := r.toInt64) hx hb dL_set_8 rfl ?_
    refine va_last hx hb hK hP hD hS 91 3 rfl rfl (by unfold vp_in; decide) dL_set_9 (fun H2 locs2 hP hD hS => ?_)
    refine lv_goto (tgt := 25) hx hb dL_set_10 (by decide) ?_
    refine lv_iconst (v := (0 : Int32)) hx hb dL_set_25 (by decide) ?_
    have hP : va_P (dC, dI) vwCl ((wFm aF aN aT aL aO aH aP aX ++ (wSt cI aN u.1 ++ (wSt cI aT u.2.1 ++ (wHi cS aH ah u.2.2.1 ++ (wZs cI ah u.2.2.2))))) ++ wOt cJ ao (vp_updL f 0 r.toInt64)) H2 := hP
    exact W.widen (k := 1) (n := 6) (Nat.le_of_ble_eq_true rfl) (Nat.le_of_ble_eq_true rfl) (W.iret (v := (0 : Int32)) hx hb hr (fun t ht hW => ⟨⟨(0 : Int32), (u, vp_updL f 0 r.toInt64), rfl, ⟨0, r, hw, Or.inl ⟨rfl, rfl, rfl⟩⟩, P_at ht hP⟩, hS.F ht⟩) hS.2.2 dL_set_26)
abbrev rm_L_serve : Room := { frames := 7, cells := 1, slots := 6, locals := 151 }
abbrev q_L_serve (dC : Nat → ClassId) (dI : Nat → Nat → Nat) (cI cZ cS cJ : ClassId) (aF aN aT aL aO aH : Nat → Nat) (ah : Nat → Nat → Nat) (aP aX : Nat → Nat) (ao : Nat) (S : Pic) (Y : Pic) (G : Pic) (Z : (Nat → Pic)) (res : Int32 × Int32 × Pic × Pic × Pic × (Nat → Pic)) (A : Nat → Prop) : Array Value → State → Outcome → State → Prop := va_Qi (fun (k : Int32) (u : (Pic × Pic × Pic × (Nat → Pic)) × (Nat → Int64)) => ∃ c r : Int32, (c, r, u.1) = res ∧ wrp [1, 3] c r k (u.2 0)) (fun u t => va_P (dC, dI) vwCl ((wFm aF aN aT aL aO aH aP aX ++ (wSt cI aN u.1.1 ++ (wLo cI aL u.1.2.1 ++ (wOu aO aN aL ++ (wHi cS aH ah u.1.2.2.1 ++ (wZs cI ah u.1.2.2.2)))))) ++ wOt cJ ao u.2) t.heap) A
set_option maxHeartbeats 4000000 in
set_option maxRecDepth 100000 in
theorem met_L_serve (l : Launch) (hfl : l.stackTraces = false) (dC : Nat → ClassId) (dI : Nat → Nat → Nat) (cI cZ cS cJ : ClassId) (aF aN aT aL aO aH : Nat → Nat) (ah : Nat → Nat → Nat) (aP aX : Nat → Nat) (ao : Nat) (f : Nat → Int64) (S : Pic) (Y : Pic) (G : Pic) (Z : (Nat → Pic)) (base sz : Nat) (p1 : Int32) (p2 : Int32) (res : Int32 × Int32 × Pic × Pic × Pic × (Nat → Pic)) (hR : f6_serve S Y G Z p1 p2 = res) (hks : ∀ c r, (∃ u, (c, r, u) = res) → c = 0 ∨ ∃ i : Nat, ([1, 3] : List Int32)[i]? = some c) : Met l yL_serve wsL_serve rm_L_serve (va_Pc [.ref (aF 0), .int p1, .int p2, .ref ao] (pL (dC, dI) cI cZ cS cJ ((wFm aF aN aT aL aO aH aP aX ++ (wSt cI aN S ++ (wLo cI aL Y ++ (wOu aO aN aL ++ (wHi cS aH ah G ++ (wZs cI ah Z)))))) ++ wOt cJ ao f) base sz)) (q_L_serve dC dI cI cZ cS cJ aF aN aT aL aO aH ah aP aX ao S Y G Z res (va_A ((wFm aF aN aT aL aO aH aP aX ++ (wSt cI aN S ++ (wLo cI aL Y ++ (wOu aO aN aL ++ (wHi cS aH ah G ++ (wZs cI ah Z)))))) ++ wOt cJ ao f) sz)) 1 6 (va_A ((wFm aF aN aT aL aO aH aP aX ++ (wSt cI aN S ++ (wLo cI aL Y ++ (wOu aO aN aL ++ (wHi cS aH ah G ++ (wZs cI ah Z)))))) ++ wOt cJ ao f) sz) := by
  refine met_ofWH (cc := cL_serve) (maxL := 5) (ret := some .int) (hh := [(0, 10, 13, 21), (0, 10, 17, 15)]) (by decide) rfl ?_
  intro p e s m args below meth c s₁ B hml hv
  obtain ⟨rfl, ⟨hsz, hP, hK, hD0, hN, hbs, hXW⟩, hNC⟩ := hv
  have hx := B.exec
  have hb := B.bytes
  have hr := B.returns
  have hts := atoms_spec (ws := wsL_serve) B.pre
  have hown : s.vm.findClass RL = some m.cls := findClass_of_methodNamed B.named
  have hlocks := B.notSynchronized
  have htab := vx_table (x := yL_serve) B (hts _ List.mem_cons_self)
  subst hsz
  have hD := hD0.self (sz := s.heap.size)
  generalize hAe : va_A ((wFm aF aN aT aL aO aH aP aX ++ (wSt cI aN S ++ (wLo cI aL Y ++ (wOu aO aN aL ++ (wHi cS aH ah G ++ (wZs cI ah Z)))))) ++ wOt cJ ao f) s.heap.size = A at hD ⊢
  have hA : ∀ q : Nat, s.heap.size ≤ q → A q := fun q h => by rw [← hAe]; exact Or.inr h
  have hS : va_S A s.heap s.heap [] := va_S.rf
  have hP : va_P (dC, dI) vwCl ((wFm aF aN aT aL aO aH aP aX ++ (wSt cI aN S ++ (wLo cI aL Y ++ (wOu aO aN aL ++ (wHi cS aH ah G ++ (wZs cI ah Z)))))) ++ wOt cJ ao f) s.heap := hP
  have hK3 := hK.sub (tys' := tyS cI cZ cS) [0, 1, 2] rfl
  have hl := lv_entry ([.ref (aF 0), .int p1, .int p2, .ref ao]) (n := 5) (Nat.le_of_ble_eq_true rfl)
  rw [lg_entry_eq]
  generalize (lg_sl ([.ref (aF 0), .int p1, .int p2, .ref ao]) ++ List.replicate (5 - (lg_sl ([.ref (aF 0), .int p1, .int p2, .ref ao])).length) Slot.unset).toArray = ls at hl ⊢
  have hl : lv_has ls 5 [(0, .ref (aF 0)), (1, .int p1), (2, .int p2), (3, .ref ao)] := hl
  refine lv_aload_n hx hb dL_serve_0 rfl (lv_at hl 3 rfl) ?_
  refine lv_iconst (v := (0 : Int32)) hx hb dL_serve_1 (by decide) ?_
  refine lv_aload_n hx hb dL_serve_2 rfl (lv_at hl 0 rfl) ?_
  refine lv_iload_n hx hb dL_serve_3 rfl (lv_at hl 1 rfl) ?_
  refine lv_iload_n hx hb dL_serve_4 rfl (lv_at hl 2 rfl) ?_
  have hF := va_free (wc := wFm aF aN aT aL aO aH aP aX ++ (wSt cI aN S ++ (wLo cI aL Y ++ (wOu aO aN aL ++ (wHi cS aH ah G ++ (wZs cI ah Z)))))) hD hS hA [0, 1, 2, 3, 4, 5, 6, 7, 8, 9, 10, 11, 12, 13, 14, 15, 16, 17, 18, 19, 20, 21, 22, 23, 24, 25, 26, 27, 28, 29, 30, 31, 32, 33, 34, 35, 36, 37, 38, 39, 40, 41, 42, 43, 44, 45, 46, 47, 48, 49, 50, 51, 52, 53, 54, 55, 56, 57, 58, 59, 60, 61, 62, 63, 64, 65, 66, 67, 68, 69, 70, 71, 72, 73, 74, 75, 76, 77, 78, 79, 80, 81, 82, 83] rfl
  subst hR
  refine vx_calli (vx_runV (As := [.int p1, .int p2]) (rest := [.int (0 : Int32), .ref ao]) ⟨hx, hb, hml, hown, hts⟩ (met_X6_serve l hfl dC dI cI cZ cS aF aN aT aL aO aH ah aP aX S Y G Z base s.heap.size p1 p2) (cwV 2 hts gL_serve_X6_serve rfl rfl rfl (by decide +kernel) ⟨Nat.le_of_ble_eq_true rfl, Nat.le_of_ble_eq_true rfl⟩) (pXV (wc := wFm aF aN aT aL aO aH aP aX ++ (wSt cI aN S ++ (wLo cI aL Y ++ (wOu aO aN aL ++ (wHi cS aH ah G ++ (wZs cI ah Z)))))) (ci := 6) (q0 := 0) hK3 hP hD0 hN hbs hXW [0, 1, 2, 3, 4, 5, 6, 7, 8, 9, 10, 11, 12, 13, 14, 15, 16, 17, 18, 19, 20, 21, 22, 23, 24, 25, 26, 27, 28, 29, 30, 31, 32, 33, 34, 35, 36, 37, 38, 39, 40, 41, 42, 43, 44, 45, 46, 47, 48, 49, 50, 51, 52, 53, 54, 55, 56, 57, 58, 59, 60, 61, 62, 63, 64, 65, 66, 67, 68, 69, 70, 71, 72, 73, 74, 75, 76, 77, 78, 79, 80, 81, 82, 83] rfl (by decide) rfl rfl) rfl rfl hl.1 rfl (lv_room (Nat.le_of_ble_eq_true rfl)) dL_serve_5 ⟨Nat.le_of_ble_eq_true rfl, Nat.le_of_ble_eq_true rfl⟩) hS (fun q _ h => hF q h) hF (fun q _ h => hF q h) (fun E ce q9 u t H1 locs ht hvm hpx hB hz1 hk1 hS hce hcv hcl => ?_) (fun r u t H1 locs ht hvm hw hB hz1 hk1 hS => ?_)
  · obtain ⟨c, hE, hc0, hres, hB⟩ := hB
    rw [ht] at hB
    have hP := wrk2 (w2 := (wFm aF aN aT aL aO aH aP aX ++ (wSt cI aN u.1 ++ (wLo cI aL u.2.1 ++ (wOu aO aN aL ++ (wHi cS aH ah u.2.2.1 ++ (wZs cI ah u.2.2.2)))))) ++ wOt cJ ao f) (wr := wOt cJ ao f) hP hD [0, 1, 2, 3, 4, 5, 6, 7, 8, 9, 10, 11, 12, 13, 14, 15, 16, 17, 18, 19, 20, 21, 22, 23, 24, 25, 26, 27, 28, 29, 30, 31, 32, 33, 34, 35, 36, 37, 38, 39, 40, 41, 42, 43, 44, 45, 46, 47, 48, 49, 50, 51, 52, 53, 54, 55, 56, 57, 58, 59, 60, 61, 62, 63, 64, 65, 66, 67, 68, 69, 70, 71, 72, 73, 74, 75, 76, 77, 78, 79, 80, 81, 82, 83] [84] rfl rfl (by decide) hk1 hB [1, 2, 3, 4, 5, 6, 7, 8, 9, 10, 11, 12, 13, 14, 15, 16, 17, 18, 19, 20, 21, 22, 23, 24, 25, 26, 27, 28, 29, 30, 31, 32, 33, 34, 35, 36, 37, 38, 39, 40, 41, 42, 43, 44, 45, 46, 47, 48, 49, 50, 51, 52, 53, 54, 55, 56, 57, 58, 59, 60, 61, 62, 63, 64, 65, 66, 67, 68, 69, 70, 71, 72, 73, 74, 75, 76, 77, 78, 79, 80, 81, 82, 83, 84, 0] rfl
    have hD := D_addr (w1 := (wFm aF aN aT aL aO aH aP aX ++ (wSt cI aN u.1 ++ (wLo cI aL u.2.1 ++ (wOu aO aN aL ++ (wHi cS aH ah u.2.2.1 ++ (wZs cI ah u.2.2.2)))))) ++ wOt cJ ao f) hD rfl
    have hres2 := hres
    have hcs := hks c 0 ⟨u, hres⟩
    rcases hcs with hcs | ⟨i, hi⟩
    · exact absurd hcs hc0
    have hil : i < 2 := by
      rcases Nat.lt_or_ge i 2 with q | q
      · exact q
      · rw [List.getElem?_eq_none (by simpa using q)] at hi; cases hi
    have hik : i = 0 ∨ i = 1 := by omega
    rcases hik with rfl | rfl
    · have hc : c = 1 := (Option.some.inj hi).symm
      have hE : E = "java/lang/IndexOutOfBoundsException" := hE.symm.trans (by rw [hc]; rfl)
      subst hE
      refine vx_catch (name := "java/lang/IndexOutOfBoundsException") hown [] ⟨0, 10, 13, 21⟩ [⟨0, 10, 17, 15⟩] (htab.trans rfl) (fun z hz => by cases hz) (by decide) (by decide) (hts (.classLink RL 21 "java/lang/IndexOutOfBoundsException") (by decide +kernel)) ((hXW.2.2.2.1 "java/lang/IndexOutOfBoundsException" (by decide)).use rfl) hce hcv hcl ?_
      refine lv_astore (lv' := [(4, .ref q9), (0, .ref (aF 0)), (1, .int p1), (2, .int p2), (3, .ref ao)]) hx hb dL_serve_13 hl (by decide) rfl (fun ls hl => ?_)
      refine lv_iconst (v := (1 : Int32)) hx hb dL_serve_15 (by decide) ?_
      exact W.widen (k := 1) (n := 6) (Nat.le_of_ble_eq_true rfl) (Nat.le_of_ble_eq_true rfl) (W.iret (v := (1 : Int32)) hx hb hr (fun t ht hW => ⟨⟨(1 : Int32), (u, f), rfl, ⟨c, 0, hres, Or.inr ⟨0, hi, rfl⟩⟩, P_at ht hP⟩, hS.F ht⟩) hS.2.2 dL_serve_16)
    · have hc : c = 3 := (Option.some.inj hi).symm
      have hE : E = "java/lang/IllegalStateException" := hE.symm.trans (by rw [hc]; rfl)
      subst hE
      refine vx_catch (name := "java/lang/IllegalStateException") hown [⟨0, 10, 13, 21⟩] ⟨0, 10, 17, 15⟩ [] (htab.trans rfl) (List.forall_mem_cons.mpr ⟨Or.inr ⟨by decide, "java/lang/IndexOutOfBoundsException", (hts (.classLink RL 21 "java/lang/IndexOutOfBoundsException") (by decide +kernel)), hNC ("java/lang/IllegalStateException", "java/lang/IndexOutOfBoundsException") (by decide)⟩, (fun z hz => by cases hz)⟩) (by decide) (by decide) (hts (.classLink RL 15 "java/lang/IllegalStateException") (by decide +kernel)) ((hXW.2.2.2.1 "java/lang/IllegalStateException" (by decide)).use rfl) hce hcv hcl ?_
      refine lv_astore (lv' := [(4, .ref q9), (0, .ref (aF 0)), (1, .int p1), (2, .int p2), (3, .ref ao)]) hx hb dL_serve_17 hl (by decide) rfl (fun ls hl => ?_)
      refine lv_iconst (v := (2 : Int32)) hx hb dL_serve_19 (by decide) ?_
      exact W.widen (k := 1) (n := 6) (Nat.le_of_ble_eq_true rfl) (Nat.le_of_ble_eq_true rfl) (W.iret (v := (2 : Int32)) hx hb hr (fun t ht hW => ⟨⟨(2 : Int32), (u, f), rfl, ⟨c, 0, hres, Or.inr ⟨1, hi, rfl⟩⟩, P_at ht hP⟩, hS.F ht⟩) hS.2.2 dL_serve_20)
  · rw [ht] at hB
    have hP := wrk2 (w2 := (wFm aF aN aT aL aO aH aP aX ++ (wSt cI aN u.1 ++ (wLo cI aL u.2.1 ++ (wOu aO aN aL ++ (wHi cS aH ah u.2.2.1 ++ (wZs cI ah u.2.2.2)))))) ++ wOt cJ ao f) (wr := wOt cJ ao f) hP hD [0, 1, 2, 3, 4, 5, 6, 7, 8, 9, 10, 11, 12, 13, 14, 15, 16, 17, 18, 19, 20, 21, 22, 23, 24, 25, 26, 27, 28, 29, 30, 31, 32, 33, 34, 35, 36, 37, 38, 39, 40, 41, 42, 43, 44, 45, 46, 47, 48, 49, 50, 51, 52, 53, 54, 55, 56, 57, 58, 59, 60, 61, 62, 63, 64, 65, 66, 67, 68, 69, 70, 71, 72, 73, 74, 75, 76, 77, 78, 79, 80, 81, 82, 83] [84] rfl rfl (by decide) hk1 hB [1, 2, 3, 4, 5, 6, 7, 8, 9, 10, 11, 12, 13, 14, 15, 16, 17, 18, 19, 20, 21, 22, 23, 24, 25, 26, 27, 28, 29, 30, 31, 32, 33, 34, 35, 36, 37, 38, 39, 40, 41, 42, 43, 44, 45, 46, 47, 48, 49, 50, 51, 52, 53, 54, 55, 56, 57, 58, 59, 60, 61, 62, 63, 64, 65, 66, 67, 68, 69, 70, 71, 72, 73, 74, 75, 76, 77, 78, 79, 80, 81, 82, 83, 84, 0] rfl
    have hD := D_addr (w1 := (wFm aF aN aT aL aO aH aP aX ++ (wSt cI aN u.1 ++ (wLo cI aL u.2.1 ++ (wOu aO aN aL ++ (wHi cS aH ah u.2.2.1 ++ (wZs cI ah u.2.2.2)))))) ++ wOt cJ ao f) hD rfl
    refine lv_i2l (v := r.toInt64) hx hb dL_serve_8 rfl ?_
    refine va_last hx hb hK hP hD hS 84 3 rfl rfl (by unfold vp_in; decide) dL_serve_9 (fun H2 locs2 hP hD hS => ?_)
    refine lv_goto (tgt := 21) hx hb dL_serve_10 (by decide) ?_
    refine lv_iconst (v := (0 : Int32)) hx hb dL_serve_21 (by decide) ?_
    have hP : va_P (dC, dI) vwCl ((wFm aF aN aT aL aO aH aP aX ++ (wSt cI aN u.1 ++ (wLo cI aL u.2.1 ++ (wOu aO aN aL ++ (wHi cS aH ah u.2.2.1 ++ (wZs cI ah u.2.2.2)))))) ++ wOt cJ ao (vp_updL f 0 r.toInt64)) H2 := hP
    exact W.widen (k := 1) (n := 6) (Nat.le_of_ble_eq_true rfl) (Nat.le_of_ble_eq_true rfl) (W.iret (v := (0 : Int32)) hx hb hr (fun t ht hW => ⟨⟨(0 : Int32), (u, vp_updL f 0 r.toInt64), rfl, ⟨0, r, hw, Or.inl ⟨rfl, rfl, rfl⟩⟩, P_at ht hP⟩, hS.F ht⟩) hS.2.2 dL_serve_22)
