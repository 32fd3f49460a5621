abbrev rm_L_drop : Room := { frames := 7, cells := 1, slots := 6, locals := 148 }
abbrev q_L_drop (dC : Nat → ClassId) (dI : Nat → Nat → Nat) (cI cZ cS cJ : ClassId) (aF aN aT aL aO aH : Nat → Nat) (ah : Nat → Nat → Nat) (aP aX : Nat → Nat) (ao : Nat) (S : Pic) (R : Pic) (Y : Pic) (G : Pic) (Z : (Nat → Pic)) (res : Int32 × Int32 × Pic × Pic × Pic × Pic × (Nat → Pic)) (A : Nat → Prop) : Array Value → State → Outcome → State → Prop := va_Qi (fun (k : Int32) (u : (Pic × Pic × Pic × Pic × (Nat → Pic)) × (Nat → Int64)) => ∃ c r : Int32, (c, r, u.1) = res ∧ wrp [1, 3] c r k (u.2 0)) (fun u t => va_P (dC, dI) vwCl ((wFm aF aN aT aL aO aH aP aX ++ (wSt cI aN u.1.1 ++ (wSt cI aT u.1.2.1 ++ (wLo cI aL u.1.2.2.1 ++ (wHi cS aH ah u.1.2.2.2.1 ++ (wZs cI ah u.1.2.2.2.2)))))) ++ wOt cJ ao u.2) t.heap) A
set_option maxHeartbeats 4000000 in
set_option maxRecDepth 100000 in
theorem met_L_drop (l : Launch) (hfl : l.stackTraces = false) (dC : Nat → ClassId) (dI : Nat → Nat → Nat) (cI cZ cS cJ : ClassId) (aF aN aT aL aO aH : Nat → Nat) (ah : Nat → Nat → Nat) (aP aX : Nat → Nat) (ao : Nat) (f : Nat → Int64) (S : Pic) (R : Pic) (Y : Pic) (G : Pic) (Z : (Nat → Pic)) (base sz : Nat) (p1 : Int32) (p2 : Int32) (res : Int32 × Int32 × Pic × Pic × Pic × Pic × (Nat → Pic)) (hR : f6_drop S R Y G Z p1 p2 = res) (hks : ∀ c r, (∃ u, (c, r, u) = res) → c = 0 ∨ ∃ i : Nat, ([1, 3] : List Int32)[i]? = some c) : Met l yL_drop wsL_drop rm_L_drop (va_Pc [.ref (aF 0), .int p1, .int p2, .ref ao] (pL (dC, dI) cI cZ cS cJ ((wFm aF aN aT aL aO aH aP aX ++ (wSt cI aN S ++ (wSt cI aT R ++ (wLo cI aL Y ++ (wHi cS aH ah G ++ (wZs cI ah Z)))))) ++ wOt cJ ao f) base sz)) (q_L_drop dC dI cI cZ cS cJ aF aN aT aL aO aH ah aP aX ao S R Y G Z res (va_A ((wFm aF aN aT aL aO aH aP aX ++ (wSt cI aN S ++ (wSt cI aT R ++ (wLo cI aL Y ++ (wHi cS aH ah G ++ (wZs cI ah Z)))))) ++ wOt cJ ao f) sz)) 1 6 (va_A ((wFm aF aN aT aL aO aH aP aX ++ (wSt cI aN S ++ (wSt cI aT R ++ (wLo cI aL Y ++ (wHi cS aH ah G ++ (wZs cI ah Z)))))) ++ wOt cJ ao f) sz) := by
  refine met_ofWH (cc := cL_drop) (maxL := 5) (ret := some .int) (hh := [(0, 10, 13, 21), (0, 10, 17, 15)]) (by decide) rfl ?_
  intro p e s m args below meth c s₁ B hml hv
  obtain ⟨rfl, ⟨hsz, hP, hK, hD0, hN, hbs, hXW⟩, hNC⟩ := hv
  have hx := B.exec
  have hb := B.bytes
  have hr := B.returns
  have hts := atoms_spec (ws := wsL_drop) B.pre
  have hown : s.vm.findClass RL = some m.cls := findClass_of_methodNamed B.named
  have hlocks := B.notSynchronized
  have htab := vx_table (x := yL_drop) B (hts _ List.mem_cons_self)
  subst hsz
  have hD := hD0.self (sz := s.heap.size)
  generalize hAe : va_A ((wFm aF aN aT aL aO aH aP aX ++ (wSt cI aN S ++ (wSt cI aT R ++ (wLo cI aL Y ++ (wHi cS aH ah G ++ (wZs cI ah Z)))))) ++ wOt cJ ao f) s.heap.size = A at hD ⊢
  have hA : ∀ q : Nat, s.heap.size ≤ q → A q := fun q h => by rw [← hAe]; exact Or.inr h
  have hS : va_S A s.heap s.heap [] := va_S.rf
  have hP : va_P (dC, dI) vwCl ((wFm aF aN aT aL aO aH aP aX ++ (wSt cI aN S ++ (wSt cI aT R ++ (wLo cI aL Y ++ (wHi cS aH ah G ++ (wZs cI ah Z)))))) ++ wOt cJ ao f) s.heap := hP
  have hK3 := hK.sub (tys' := tyS cI cZ cS) [0, 1, 2] rfl
  have hl := lv_entry ([.ref (aF 0), .int p1, .int p2, .ref ao]) (n := 5) (Nat.le_of_ble_eq_true rfl)
  rw [lg_entry_eq]
  generalize (lg_sl ([.ref (aF 0), .int p1, .int p2, .ref ao]) ++ List.replicate (5 - (lg_sl ([.ref (aF 0), .int p1, .int p2, .ref ao])).length) Slot.unset).toArray = ls at hl ⊢
  have hl : lv_has ls 5 [(0, .ref (aF 0)), (1, .int p1), (2, .int p2), (3, .ref ao)] := hl
  refine lv_aload_n hx hb dL_drop_0 rfl (lv_at hl 3 rfl) ?_
  refine lv_iconst (v := (0 : Int32)) hx hb dL_drop_1 (by decide) ?_
  refine lv_aload_n hx hb dL_drop_2 rfl (lv_at hl 0 rfl) ?_
  refine lv_iload_n hx hb dL_drop_3 rfl (lv_at hl 1 rfl) ?_
  refine lv_iload_n hx hb dL_drop_4 rfl (lv_at hl 2 rfl) ?_
  have hF := va_free (wc := wFm aF aN aT aL aO aH aP aX ++ (wSt cI aN S ++ (wSt cI aT R ++ (wLo cI aL Y ++ (wHi cS aH ah G ++ (wZs cI ah Z)))))) hD hS hA [0, 1, 2, 3, 4, 5, 6, 7, 8, 9, 10, 11, 12, 13, 14, 15, 16, 17, 18, 19, 20, 21, 22, 23, 24, 25, 26, 27, 28, 29, 30, 31, 32, 33, 34, 35, 36, 37, 38, 39, 40, 41, 42, 43, 44, 45, 46, 47, 48, 49, 50, 51, 52, 53, 54, 55, 56, 57, 58, 59, 60, 61, 62, 63, 64, 65, 66, 67, 68, 69, 70, 71, 72, 73, 74, 75, 76, 77, 78, 79, 80, 81, 82, 83, 84, 85, 86, 87, 88, 89, 90, 91, 92, 93] rfl
  subst hR
  refine vx_calli (vx_runV (As := [.int p1, .int p2]) (rest := [.int (0 : Int32), .ref ao]) ⟨hx, hb, hml, hown, hts⟩ (met_X6_drop l hfl dC dI cI cZ cS aF aN aT aL aO aH ah aP aX S R Y G Z base s.heap.size p1 p2) (cwV 2 hts gL_drop_X6_drop rfl rfl rfl (by decide +kernel) ⟨Nat.le_of_ble_eq_true rfl, Nat.le_of_ble_eq_true rfl⟩) (pXV (wc := wFm aF aN aT aL aO aH aP aX ++ (wSt cI aN S ++ (wSt cI aT R ++ (wLo cI aL Y ++ (wHi cS aH ah G ++ (wZs cI ah Z)))))) (ci := 6) (q0 := 0) hK3 hP hD0 hN hbs hXW [0, 1, 2, 3, 4, 5, 6, 7, 8, 9, 10, 11, 12, 13, 14, 15, 16, 17, 18, 19, 20, 21, 22, 23, 24, 25, 26, 27, 28, 29, 30, 31, 32, 33, 34, 35, 36, 37, 38, 39, 40, 41, 42, 43, 44, 45, 46, 47, 48, 49, 50, 51, 52, 53, 54, 55, 56, 57, 58, 59, 60, 61, 62, 63, 64, 65, 66, 67, 68, 69, 70, 71, 72, 73, 74, 75, 76, 77, 78, 79, 80, 81, 82, 83, 84, 85, 86, 87, 88, 89, 90, 91, 92, 93] rfl (by decide) rfl rfl) rfl rfl hl.1 rfl (lv_room (Nat.le_of_ble_eq_true rfl)) dL_drop_5 ⟨Nat.le_of_ble_eq_true rfl, Nat.le_of_ble_eq_true rfl⟩) hS (fun q _ h => hF q h) hF (fun q _ h => hF q h) (fun E ce q9 u t H1 locs ht hvm hpx hB hz1 hk1 hS hce hcv hcl => ?_) (fun r u t H1 locs ht hvm hw hB hz1 hk1 hS => ?_)
  · obtain ⟨c, hE, hc0, hres, hB⟩ := hB
    rw [ht] at hB
    have hP := wrk2 (w2 := (wFm aF aN aT aL aO aH aP aX ++ (wSt cI aN u.1 ++ (wSt cI aT u.2.1 ++ (wLo cI aL u.2.2.1 ++ (wHi cS aH ah u.2.2.2.1 ++ (wZs cI ah u.2.2.2.2)))))) ++ wOt cJ ao f) (wr := wOt cJ ao f) hP hD [0, 1, 2, 3, 4, 5, 6, 7, 8, 9, 10, 11, 12, 13, 14, 15, 16, 17, 18, 19, 20, 21, 22, 23, 24, 25, 26, 27, 28, 29, 30, 31, 32, 33, 34, 35, 36, 37, 38, 39, 40, 41, 42, 43, 44, 45, 46, 47, 48, 49, 50, 51, 52, 53, 54, 55, 56, 57, 58, 59, 60, 61, 62, 63, 64, 65, 66, 67, 68, 69, 70, 71, 72, 73, 74, 75, 76, 77, 78, 79, 80, 81, 82, 83, 84, 85, 86, 87, 88, 89, 90, 91, 92, 93] [94] rfl rfl (by decide) hk1 hB [1, 2, 3, 4, 5, 6, 7, 8, 9, 10, 11, 12, 13, 14, 15, 16, 17, 18, 19, 20, 21, 22, 23, 24, 25, 26, 27, 28, 29, 30, 31, 32, 33, 34, 35, 36, 37, 38, 39, 40, 41, 42, 43, 44, 45, 46, 47, 48, 49, 50, 51, 52, 53, 54, 55, 56, 57, 58, 59, 60, 61, 62, 63, 64, 65, 66, 67, 68, 69, 70, 71, 72, 73, 74, 75, 76, 77, 78, 79, 80, 81, 82, 83, 84, 85, 86, 87, 88, 89, 90, 91, 92, 93, 94, 0] rfl
    have hD := D_addr (w1 := (wFm aF aN aT aL aO aH aP aX ++ (wSt cI aN u.1 ++ (wSt cI aT u.2.1 ++ (wLo cI aL u.2.2.1 ++ (wHi cS aH ah u.2.2.2.1 ++ (wZs cI ah u.2.2.2.2)))))) ++ wOt cJ ao f) hD rfl
    have hres2 := hres
    have hcs := hks c 0 ⟨u, hres⟩
    rcases hcs with hcs | ⟨i, hi⟩
    · exact absurd hcs hc0
    have hil : i < 2 := by
      rcases Nat.lt_or_ge i 2 with q | q
      · exact q
      · rw [List.getElem?_eq_none (by simpa using q)] at hi; cases hi
    have hik : i = 0 ∨ i = 1 := by omega
    rcases hik with rfl | rfl
    · have hc : c = 1 := (Option.some.inj hi).symm
      have hE : E = "java/lang/IndexOutOfBoundsException" := hE.symm.trans (by rw [hc]; rfl)
      subst hE
      refine vx_catch (name := "java/lang/IndexOutOfBoundsException") hown [] ⟨0, 10, 13, 21⟩ [⟨0, 10, 17, 15⟩] (htab.trans rfl) (fun z hz => by cases hz) (by decide) (by decide) (hts (.classLink RL 21 "java/lang/IndexOutOfBoundsException") (by decide +kernel)) ((hXW.2.2.2.1 "java/lang/IndexOutOfBoundsException" (by decide)).use rfl) hce hcv hcl ?_
      refine lv_astore (lv' := [(4, .ref q9), (0, .ref (aF 0)), (1, .int p1), (2, .int p2), (3, .ref ao)]) hx hb dL_drop_13 hl (by decide) rfl (fun ls hl => ?_)
      refine lv_iconst (v := (1 : Int32)) hx hb dL_drop_15 (by decide) ?_
      exact W.widen (k := 1) (n := 6) (Nat.le_of_ble_eq_true rfl) (Nat.le_of_ble_eq_true rfl) (W.iret (v := (1 : Int32)) hx hb hr (fun t ht hW => ⟨⟨(1 : Int32), (u, f), rfl, ⟨c, 0, hres, Or.inr ⟨0, hi, rfl⟩⟩, P_at ht hP⟩, hS.F ht⟩) hS.2.2 dL_drop_16)
    · have hc : c = 3 := (Option.some.inj hi).symm
      have hE : E = "java/lang/IllegalStateException" := hE.symm.trans (by rw [hc]; rfl)
      subst hE
      refine vx_catch (name := "java/lang/IllegalStateException") hown [⟨0, 10, 13, 21⟩] ⟨0, 10, 17, 15⟩ [] (htab.trans rfl) (List.forall_mem_cons.mpr ⟨Or.inr ⟨by decide, "java/lang/IndexOutOfBoundsException", (hts (.classLink RL 21 "java/lang/IndexOutOfBoundsException") (by decide +kernel)), hNC ("java/lang/IllegalStateException", "java/lang/IndexOutOfBoundsException") (by decide)⟩, (fun z hz => by cases hz)⟩) (by decide) (by decide) (hts (.classLink RL 15 "java/lang/IllegalStateException") (by decide +kernel)) ((hXW.2.2.2.1 "java/lang/IllegalStateException" (by decide)).use rfl) hce hcv hcl ?_
      refine lv_astore (lv' := [(4, .ref q9), (0, .ref (aF 0)), (1, .int p1), (2, .int p2), (3, .ref ao)]) hx hb dL_drop_17 hl (by decide) rfl (fun ls hl => ?_)
      refine lv_iconst (v := (2 : Int32)) hx hb dL_drop_19 (by decide) ?_
      exact W.widen (k := 1) (n := 6) (Nat.le_of_ble_eq_true rfl) (Nat.le_of_ble_eq_true rfl) (W.iret (v := (2 : Int32)) hx hb hr (fun t ht hW => ⟨⟨(2 : Int32), (u, f), rfl, ⟨c, 0, hres, Or.inr ⟨1, hi, rfl⟩⟩, P_at ht hP⟩, hS.F ht⟩) hS.2.2 dL_drop_20)
  · rw [ht] at hB
    have hP := wrk2 (w2 := (wFm aF aN aT aL aO aH aP aX ++ (wSt cI aN u.1 ++ (wSt cI aT u.2.1 ++ (wLo cI aL u.2.2.1 ++ (wHi cS aH ah u.2.2.2.1 ++ (wZs cI ah u.2.2.2.2)))))) ++ wOt cJ ao f) (wr := wOt cJ ao f) hP hD [0, 1, 2, 3, 4, 5, 6, 7, 8, 9, 10, 11, 12, 13, 14, 15, 16, 17, 18, 19, 20, 21, 22, 23, 24, 25, 26, 27, 28, 29, 30, 31, 32, 33, 34, 35, 36, 37, 38, 39, 40, 41, 42, 43, 44, 45, 46, 47, 48, 49, 50, 51, 52, 53, 54, 55, 56, 57, 58, 59, 60, 61, 62, 63, 64, 65, 66, 67, 68, 69, 70, 71, 72, 73, 74, 75, 76, 77, 78, 79, 80, 81, 82, 83, 84, 85, 86, 87, 88, 89, 90, 91, 92, 93] [94] rfl rfl (by decide) hk1 hB [1, 2, 3, 4, 5, 6, 7, 8, 9, 10, 11, 12, 13, 14, 15, 16, 17, 18, 19, 20, 21, 22, 23, 24, 25, 26, 27, 28, 29, 30, 31, 32, 33, 34, 35, 36, 37, 38, 39, 40, 41, 42, 43, 44, 45, 46, 47, 48, 49, 50, 51, 52, 53, 54, 55, 56, 57, 58, 59, 60, 61, 62, 63, 64, 65, 66, 67, 68, 69, 70, 71, 72, 73, 74, 75, 76, 77, 78, 79, 80, 81, 82, 83, 84, 85, 86, 87, 88, 89, 90, 91, 92, 93, 94, 0] rfl
    have hD := D_addr (w1 := (wFm aF aN aT aL aO aH aP aX ++ (wSt cI aN u.1 ++ (wSt cI aT u.2.1 ++ (wLo cI aL u.2.2.1 ++ (wHi cS aH ah u.2.2.2.1 ++ (wZs cI ah u.2.2.2.2)))))) ++ wOt cJ ao f) hD rfl
    refine lv_i2l (v := r.toInt64) hx hb dL_drop_8 rfl ?_
    refine va_last hx hb hK hP hD hS 94 3 rfl rfl (by unfold vp_in; decide) dL_drop_9 (fun H2 locs2 hP hD hS => ?_)
    refine lv_goto (tgt := 21) hx hb dL_drop_10 (by decide) ?_
    refine lv_iconst (v := (0 : Int32)) hx hb dL_drop_21 (by decide) ?_
    have hP : va_P (dC, dI) vwCl ((wFm aF aN aT aL aO aH aP aX ++ (wSt cI aN u.1 ++ (wSt cI aT u.2.1 ++ (wLo cI aL u.2.2.1 ++ (wHi cS aH ah u.2.2.2.1 ++ (wZs cI ah u.2.2.2.2)))))) ++ wOt cJ ao (vp_updL f 0 r.toInt64)) H2 := hP
    exact W.widen (k := 1) (n := 6) (Nat.le_of_ble_eq_true rfl) (Nat.le_of_ble_eq_true rfl) (W.iret (v := (0 : Int32)) hx hb hr (fun t ht hW => ⟨⟨(0 : Int32), (u, vp_updL f 0 r.toInt64), rfl, ⟨0, r, hw, Or.inl ⟨rfl, rfl, rfl⟩⟩, P_at ht hP⟩, hS.F ht⟩) hS.2.2 dL_drop_22)
abbrev rm_L_exchange : Room := { frames := 7, cells := 1, slots := 6, locals := 167 }
abbrev q_L_exchange (dC : Nat → ClassId) (dI : Nat → Nat → Nat) (cI cZ cS cJ : ClassId) (aF aN aT aL aO aH : Nat → Nat) (ah : Nat → Nat → Nat) (aP aX : Nat → Nat) (ao : Nat) (S : Pic) (R : Pic) (Y : Pic) (G : Pic) (Z : (Nat → Pic)) (res : Int32 × Int32 × Pic × Pic × Pic × Pic × (Nat → Pic)) (A : Nat → Prop) : Array Value → State → Outcome → State → Prop := va_Qi (fun (k : Int32) (u : (Pic × Pic × Pic × Pic × (Nat → Pic)) × (Nat → Int64)) => ∃ c r : Int32, (c, r, u.1) = res ∧ wrp [1, 3] c r k (u.2 0)) (fun u t => va_P (dC, dI) vwCl ((wFm aF aN aT aL aO aH aP aX ++ (wSt cI aN u.1.1 ++ (wSt cI aT u.1.2.1 ++ (wLo cI aL u.1.2.2.1 ++ (wOu aO aN aL ++ (wHi cS aH ah u.1.2.2.2.1 ++ (wZs cI ah u.1.2.2.2.2))))))) ++ wOt cJ ao u.2) t.heap) A
set_option maxHeartbeats 4000000 in
set_option maxRecDepth 100000 in
theorem met_L_exchange (l : Launch) (hfl : l.stackTraces = false) (dC : Nat → ClassId) (dI : Nat → Nat → Nat) (cI cZ cS cJ : ClassId) (aF aN aT aL aO aH : Nat → Nat) (ah : Nat → Nat → Nat) (aP aX : Nat → Nat) (ao : Nat) (f : Nat → Int64) (S : Pic) (R : Pic) (Y : Pic) (G : Pic) (Z : (Nat → Pic)) (base sz : Nat) (p1 : Int32) (p2 : Int32) (res : Int32 × Int32 × Pic × Pic × Pic × Pic × (Nat → Pic)) (hR : f6_exchange S R Y G Z p1 p2 = res) (hks : ∀ c r, (∃ u, (c, r, u) = res) → c = 0 ∨ ∃ i : Nat, ([1, 3] : List Int32)[i]? = some c) : Met l yL_exchange wsL_exchange rm_L_exchange (va_Pc [.ref (aF 0), .int p1, .int p2, .ref ao] (pL (dC, dI) cI cZ cS cJ ((wFm aF aN aT aL aO aH aP aX ++ (wSt cI aN S ++ (wSt cI aT R ++ (wLo cI aL Y ++ (wOu aO aN aL ++ (wHi cS aH ah G ++ (wZs cI ah Z))))))) ++ wOt cJ ao f) base sz)) (q_L_exchange dC dI cI cZ cS cJ aF aN aT aL aO aH ah aP aX ao S R Y G Z res (va_A ((wFm aF aN aT aL aO aH aP aX ++ (wSt cI aN S ++ (wSt cI aT R ++ (wLo cI aL Y ++ (wOu aO aN aL ++ (wHi cS aH ah G ++ (wZs cI ah Z))))))) ++ wOt cJ ao f) sz)) 1 6 (va_A ((wFm aF aN aT aL aO aH aP aX ++ (wSt cI aN S ++ (wSt cI aT R ++ (wLo cI aL Y ++ (wOu aO aN aL ++ (wHi cS aH ah G ++ (wZs cI ah Z))))))) ++ wOt cJ ao f) sz) := by
  refine met_ofWH (cc := cL_exchange) (maxL := 5) (ret := some .int) (hh := [(0, 10, 13, 21), (0, 10, 17, 15)]) (by decide) rfl ?_
  intro p e s m args below meth c s₁ B hml hv
  obtain ⟨rfl, ⟨hsz, hP, hK, hD0, hN, hbs, hXW⟩, hNC⟩ := hv
  have hx := B.exec
  have hb := B.bytes
  have hr := B.returns
  have hts := atoms_spec (ws := wsL_exchange) B.pre
  have hown : s.vm.findClass RL = some m.cls := findClass_of_methodNamed B.named
  have hlocks := B.notSynchronized
  have htab := vx_table (x := yL_exchange) B (hts _ List.mem_cons_self)
  subst hsz
  have hD := hD0.self (sz := s.heap.size)
  generalize hAe : va_A ((wFm aF aN aT aL aO aH aP aX ++ (wSt cI aN S ++ (wSt cI aT R ++ (wLo cI aL Y ++ (wOu aO aN aL ++ (wHi cS aH ah G ++ (wZs cI ah Z))))))) ++ wOt cJ ao f) s.heap.size = A at hD ⊢
  have hA : ∀ q : Nat, s.heap.size ≤ q → A q := fun q h => by rw [← hAe]; exact Or.inr h
  have hS : va_S A s.heap s.heap [] := va_S.rf
  have hP : va_P (dC, dI) vwCl ((wFm aF aN aT aL aO aH aP aX ++ (wSt cI aN S ++ (wSt cI aT R ++ (wLo cI aL Y ++ (wOu aO aN aL ++ (wHi cS aH ah G ++ (wZs cI ah Z))))))) ++ wOt cJ ao f) s.heap := hP
  have hK3 := hK.sub (tys' := tyS cI cZ cS) [0, 1, 2] rfl
  have hl := lv_entry ([.ref (aF 0), .int p1, .int p2, .ref ao]) (n := 5) (Nat.le_of_ble_eq_true rfl)
  rw [lg_entry_eq]
  generalize (lg_sl ([.ref (aF 0), .int p1, .int p2, .ref ao]) ++ List.replicate (5 - (lg_sl ([.ref (aF 0), .int p1, .int p2, .ref ao])).length) Slot.unset).toArray = ls at hl ⊢
  have hl : lv_has ls 5 [(0, .ref (aF 0)), (1, .int p1), (2, .int p2), (3, .ref ao)] := hl
  refine lv_aload_n hx hb dL_exchange_0 rfl (lv_at hl 3 rfl) ?_
  refine lv_iconst (v := (0 : Int32)) hx hb dL_exchange_1 (by decide) ?_
  refine lv_aload_n hx hb dL_exchange_2 rfl (lv_at hl 0 rfl) ?_
  refine lv_iload_n hx hb dL_exchange_3 rfl (lv_at hl 1 rfl) ?_
  refine lv_iload_n hx hb dL_exchange_4 rfl (lv_at hl 2 rfl) ?_
  have hF := va_free (wc := wFm aF aN aT aL aO aH aP aX ++ (wSt cI aN S ++ (wSt cI aT R ++ (wLo cI aL Y ++ (wOu aO aN aL ++ (wHi cS aH ah G ++ (wZs cI ah Z))))))) hD hS hA [0, 1, 2, 3, 4, 5, 6, 7, 8, 9, 10, 11, 12, 13, 14, 15, 16, 17, 18, 19, 20, 21, 22, 23, 24, 25, 26, 27, 28, 29, 30, 31, 32, 33, 34, 35, 36, 37, 38, 39, 40, 41, 42, 43, 44, 45, 46, 47, 48, 49, 50, 51, 52, 53, 54, 55, 56, 57, 58, 59, 60, 61, 62, 63, 64, 65, 66, 67, 68, 69, 70, 71, 72, 73, 74, 75, 76, 77, 78, 79, 80, 81, 82, 83, 84, 85, 86, 87, 88, 89, 90, 91, 92, 93, 94] rfl
  subst hR
  refine vx_calli (vx_runV (As := [.int p1, .int p2]) (rest := [.int (0 : Int32), .ref ao]) ⟨hx, hb, hml, hown, hts⟩ (met_X6_exchange l hfl dC dI cI cZ cS aF aN aT aL aO aH ah aP aX S R Y G Z base s.heap.size p1 p2) (cwV 2 hts gL_exchange_X6_exchange rfl rfl rfl (by decide +kernel) ⟨Nat.le_of_ble_eq_true rfl, Nat.le_of_ble_eq_true rfl⟩) (pXV (wc := wFm aF aN aT aL aO aH aP aX ++ (wSt cI aN S ++ (wSt cI aT R ++ (wLo cI aL Y ++ (wOu aO aN aL ++ (wHi cS aH ah G ++ (wZs cI ah Z))))))) (ci := 6) (q0 := 0) hK3 hP hD0 hN hbs hXW [0, 1, 2, 3, 4, 5, 6, 7, 8, 9, 10, 11, 12, 13, 14, 15, 16, 17, 18, 19, 20, 21, 22, 23, 24, 25, 26, 27, 28, 29, 30, 31, 32, 33, 34, 35, 36, 37, 38, 39, 40, 41, 42, 43, 44, 45, 46, 47, 48, 49, 50, 51, 52, 53, 54, 55, 56, 57, 58, 59, 60, 61, 62, 63, 64, 65, 66, 67, 68, 69, 70, 71, 72, 73, 74, 75, 76, 77, 78, 79, 80, 81, 82, 83, 84, 85, 86, 87, 88, 89, 90, 91, 92, 93, 94] rfl (by decide) rfl rfl) rfl rfl hl.1 rfl (lv_room (Nat.le_of_ble_eq_true rfl)) dL_exchange_5 ⟨Nat.le_of_ble_eq_true rfl, Nat.le_of_ble_eq_true rfl⟩) hS (fun q _ h => hF q h) hF (fun q _ h => hF q h) (fun E ce q9 u t H1 locs ht hvm hpx hB hz1 hk1 hS hce hcv hcl => ?_) (fun r u t H1 locs ht hvm hw hB hz1 hk1 hS => ?_)
  · obtain ⟨c, hE, hc0, hres, hB⟩ := hB
    rw [ht] at hB
    have hP := wrk2 (w2 := (wFm aF aN aT aL aO aH aP aX ++ (wSt cI aN u.1 ++ (wSt cI aT u.2.1 ++ (wLo cI aL u.2.2.1 ++ (wOu aO aN aL ++ (wHi cS aH ah u.2.2.2.1 ++ (wZs cI ah u.2.2.2.2))))))) ++ wOt cJ ao f) (wr := wOt cJ ao f) hP hD [0, 1, 2, 3, 4, 5, 6, 7, 8, 9, 10, 11, 12, 13, 14, 15, 16, 17, 18, 19, 20, 21, 22, 23, 24, 25, 26, 27, 28, 29, 30, 31, 32, 33, 34, 35, 36, 37, 38, 39, 40, 41, 42, 43, 44, 45, 46, 47, 48, 49, 50, 51, 52, 53, 54, 55, 56, 57, 58, 59, 60, 61, 62, 63, 64, 65, 66, 67, 68, 69, 70, 71, 72, 73, 74, 75, 76, 77, 78, 79, 80, 81, 82, 83, 84, 85, 86, 87, 88, 89, 90, 91, 92, 93, 94] [95] rfl rfl (by decide) hk1 hB [1, 2, 3, 4, 5, 6, 7, 8, 9, 10, 11, 12, 13, 14, 15, 16, 17, 18, 19, 20, 21, 22, 23, 24, 25, 26, 27, 28, 29, 30, 31, 32, 33, 34, 35, 36, 37, 38, 39, 40, 41, 42, 43, 44, 45, 46, 47, 48, 49, 50, 51, 52, 53, 54, 55, 56, 57, 58, 59, 60, 61, 62, 63, 64, 65, 66, 67, 68, 69, 70, 71, 72, 73, 74, 75, 76, 77, 78, 79, 80, 81, 82, 83, 84, 85, 86, 87, 88, 89, 90, 91, 92, 93, 94, 95, 0] rfl
    have hD := D_addr (w1 := (wFm aF aN aT aL aO aH aP aX ++ (wSt cI aN u.1 ++ (wSt cI aT u.2.1 ++ (wLo cI aL u.2.2.1 ++ (wOu aO aN aL ++ (wHi cS aH ah u.2.2.2.1 ++ (wZs cI ah u.2.2.2.2))))))) ++ wOt cJ ao f) hD rfl
    have hres2 := hres
    have hcs := hks c 0 ⟨u, hres⟩
    rcases hcs with hcs | ⟨i, hi⟩
    · exact absurd hcs hc0
    have hil : i < 2 := by
      rcases Nat.lt_or_ge i 2 with q | q
      · exact q
      · rw [List.getElem?_eq_none (by simpa using q)] at hi; cases hi
    have hik : i = 0 ∨ i = 1 := by omega
    rcases hik with rfl | rfl
    · have hc : c = 1 := (Option.some.inj hi).symm
      have hE : E = "java/lang/IndexOutOfBoundsException" := hE.symm.trans (by rw [hc]; rfl)
      subst hE
      refine vx_catch (name := "java/lang/IndexOutOfBoundsException") hown [] ⟨0, 10, 13, 21⟩ [⟨0, 10, 17, 15⟩] (htab.trans rfl) (fun z hz => by cases hz) (by decide) (by decide) (hts (.classLink RL 21 "java/lang/IndexOutOfBoundsException") (by decide +kernel)) ((hXW.2.2.2.1 "java/lang/IndexOutOfBoundsException" (by decide)).use rfl) hce hcv hcl ?_
      refine lv_astore (lv' := [(4, .ref q9), (0, .ref (aF 0)), (1, .int p1), (2, .int p2), (3, .ref ao)]) hx hb dL_exchange_13 hl (by decide) rfl (fun ls hl => ?_)
      refine lv_iconst (v := (1 : Int32)) hx hb dL_exchange_15 (by decide) ?_
      exact W.widen (k := 1) (n := 6) (Nat.le_of_ble_eq_true rfl) (Nat.le_of_ble_eq_true rfl) (W.iret (v := (1 : Int32)) hx hb hr (fun t ht hW => ⟨⟨(1 : Int32), (u, f), rfl, ⟨c, 0, hres, Or.inr ⟨0, hi, rfl⟩⟩, P_at ht hP⟩, hS.F ht⟩) hS.2.2 dL_exchange_16)
    · have hc : c = 3 := (Option.some.inj hi).symm
      have hE : E = "java/lang/IllegalStateException" := hE.symm.trans (by rw [hc]; rfl)
      subst hE
      refine vx_catch (name := "java/lang/IllegalStateException") hown [⟨0, 10, 13, 21⟩] ⟨0, 10, 17, 15⟩ [] (htab.trans rfl) (List.forall_mem_cons.mpr ⟨Or.inr ⟨by decide, "java/lang/IndexOutOfBoundsException", (hts (.classLink RL 21 "java/lang/IndexOutOfBoundsException") (by decide +kernel)), hNC ("java/lang/IllegalStateException", "java/lang/IndexOutOfBoundsException") (by decide)⟩, (fun z hz => by cases hz)⟩) (by decide) (by decide) (hts (.classLink RL 15 "java/lang/IllegalStateException") (by decide +kernel)) ((hXW.2.2.2.1 "java/lang/IllegalStateException" (by decide)).use rfl) hce hcv hcl ?_
      refine lv_astore (lv' := [(4, .ref q9), (0, .ref (aF 0)), (1, .int p1), (2, .int p2), (3, .ref ao)]) hx hb dL_exchange_17 hl (by decide) rfl (fun ls hl => ?_)
      refine lv_iconst (v := (2 : Int32)) hx hb dL_exchange_19 (by decide) ?_
      exact W.widen (k := 1) (n := 6) (Nat.le_of_ble_eq_true rfl) (Nat.le_of_ble_eq_true rfl) (W.iret (v := (2 : Int32)) hx hb hr (fun t ht hW => ⟨⟨(2 : Int32), (u, f), rfl, ⟨c, 0, hres, Or.inr ⟨1, hi, rfl⟩⟩, P_at ht hP⟩, hS.F ht⟩) hS.2.2 dL_exchange_20)
  · rw [ht] at hB
    have hP := wrk2 (w2 := (wFm aF aN aT aL aO aH aP aX ++ (wSt cI aN u.1 ++ (wSt cI aT u.2.1 ++ (wLo cI aL u.2.2.1 ++ (wOu aO aN aL ++ (wHi cS aH ah u.2.2.2.1 ++ (wZs cI ah u.2.2.2.2))))))) ++ wOt cJ ao f) (wr := wOt cJ ao f) hP hD [0, 1, 2, 3, 4, 5, 6, 7, 8, 9, 10, 11, 12, 13, 14, 15, 16, 17, 18, 19, 20, 21, 22, 23, 24, 25, 26, 27, 28, 29, 30, 31, 32, 33, 34, 35, 36, 37, 38, 39, 40, 41, 42, 43, 44, 45, 46, 47, 48, 49, 50, 51, 52, 53, 54, 55, 56, 57, 58, 59, 60, 61, 62, 63, 64, 65, 66, 67, 68, 69, 70, 71, 72, 73, 74, 75, 76, 77, 78, 79, 80, 81, 82, 83, 84, 85, 86, 87, 88, 89, 90, 91, 92, 93, 94] [95] rfl rfl (by decide) hk1 hB [1, 2, 3, 4, 5, 6, 7, 8, 9, 10, 11, 12, 13, 14, 15, 16, 17, 18, 19, 20, 21, 22, 23, 24, 25, 26, 27, 28, 29, 30, 31, 32, 33, 34, 35, 36, 37, 38, 39, 40, 41, 42, 43, 44, 45, 46, 47, 48, 49, 50, 51, 52, 53, 54, 55, 56, 57, 58, 59, 60, 61, 62, 63, 64, 65, 66, 67, 68, 69, 70, 71, 72, 73, 74, 75, 76, 77, 78, 79, 80, 81, 82, 83, 84, 85, 86, 87, 88, 89, 90, 91, 92, 93, 94, 95, 0] rfl
    have hD := D_addr (w1 := (wFm aF aN aT aL aO aH aP aX ++ (wSt cI aN u.1 ++ (wSt cI aT u.2.1 ++ (wLo cI aL u.2.2.1 ++ (wOu aO aN aL ++ (wHi cS aH ah u.2.2.2.1 ++ (wZs cI ah u.2.2.2.2))))))) ++ wOt cJ ao f) hD rfl
    refine lv_i2l (v := r.toInt64) hx hb dL_exchange_8 rfl ?_
    refine va_last hx hb hK hP hD hS 95 3 rfl rfl (by unfold vp_in; decide) dL_exchange_9 (fun H2 locs2 hP hD hS => ?_)
    refine lv_goto (tgt := 21) hx hb dL_exchange_10 (by decide) ?_
    refine lv_iconst (v := (0 : Int32)) hx hb dL_exchange_21 (by decide) ?_
    have hP : va_P (dC, dI) vwCl ((wFm aF aN aT aL aO aH aP aX ++ (wSt cI aN u.1 ++ (wSt cI aT u.2.1 ++ (wLo cI aL u.2.2.1 ++ (wOu aO aN aL ++ (wHi cS aH ah u.2.2.2.1 ++ (wZs cI ah u.2.2.2.2))))))) ++ wOt cJ ao (vp_updL f 0 r.toInt64)) H2 := hP
    exact W.widen (k := 1) (n := 6) (Nat.le_of_ble_eq_true rfl) (Nat.le_of_ble_eq_true rfl) (W.iret (v := (0 : Int32)) hx hb hr (fun t ht hW => ⟨⟨(0 : Int32), (u, vp_updL f 0 r.toInt64), rfl, ⟨0, r, hw, Or.inl ⟨rfl, rfl, rfl⟩⟩, P_at ht hP⟩, hS.F ht⟩) hS.2.2 dL_exchange_22)
abbrev rm_L_fill : Room := { frames := 7, cells := 1, slots := 6, locals := 176 }
abbrev q_L_fill (dC : Nat → ClassId) (dI : Nat → Nat → Nat) (cI cZ cS cJ : ClassId) (aF aN aT aL aO aH : Nat → Nat) (ah : Nat → Nat → Nat) (aP aX : Nat → Nat) (ao : Nat) (S : Pic) (Y : Pic) (G : Pic) (Z : (Nat → Pic)) (res : Int32 × Int32 × Pic × Pic × Pic × (Nat → Pic)) (A : Nat → Prop) : Array Value → State → Outcome → State → Prop := va_Qi (fun (k : Int32) (u : (Pic × Pic × Pic × (Nat → Pic)) × (Nat → Int64)) => ∃ c r : Int32, (c, r, u.1) = res ∧ wrp [1] c r k (u.2 0)) (fun u t => va_P (dC, dI) vwCl ((wFm aF aN aT aL aO aH aP aX ++ (wSt cI aN u.1.1 ++ (wLo cI aL u.1.2.1 ++ (wOu aO aN aL ++ (wHi cS aH ah u.1.2.2.1 ++ (wZs cI ah u.1.2.2.2)))))) ++ wOt cJ ao u.2) t.heap) A
set_option maxHeartbeats 4000000 in
set_option maxRecDepth 100000 in
theorem met_L_fill (l : Launch) (hfl : l.stackTraces = false) (dC : Nat → ClassId) (dI : Nat → Nat → Nat) (cI cZ cS cJ : ClassId) (aF aN aT aL aO aH : Nat → Nat) (ah : Nat → Nat → Nat) (aP aX : Nat → Nat) (ao : Nat) (f : Nat → Int64) (S : Pic) (Y : Pic) (G : Pic) (Z : (Nat → Pic)) (base sz : Nat) (p1 : Int32) (res : Int32 × Int32 × Pic × Pic × Pic × (Nat → Pic)) (hR : f6_fill S Y G Z p1 = some res) (hks : ∀ c r, (∃ u, (c, r, u) = res) → c = 0 ∨ ∃ i : Nat, ([1] : List Int32)[i]? = some c) : Met l yL_fill wsL_fill rm_L_fill (va_Pc [.ref (aF 0), .int p1, .ref ao] (pL (dC, dI) cI cZ cS cJ ((wFm aF aN aT aL aO aH aP aX ++ (wSt cI aN S ++ (wLo cI aL Y ++ (wOu aO aN aL ++ (wHi cS aH ah G ++ (wZs cI ah Z)))))) ++ wOt cJ ao f) base sz)) (q_L_fill dC dI cI cZ cS cJ aF aN aT aL aO aH ah aP aX ao S Y G Z res (va_A ((wFm aF aN aT aL aO aH aP aX ++ (wSt cI aN S ++ (wLo cI aL Y ++ (wOu aO aN aL ++ (wHi cS aH ah G ++ (wZs cI ah Z)))))) ++ wOt cJ ao f) sz)) 1 6 (va_A ((wFm aF aN aT aL aO aH aP aX ++ (wSt cI aN S ++ (wLo cI aL Y ++ (wOu aO aN aL ++ (wHi cS aH ah G ++ (wZs cI ah Z)))))) ++ wOt cJ ao f) sz) := by
  refine met_ofWH (cc := cL_fill) (maxL := 4) (ret := some .int) (hh := [(0, 9, 12, 21)]) (by decide) rfl ?_
  intro p e s m args below meth c s₁ B hml hv
  obtain ⟨rfl, ⟨hsz, hP, hK, hD0, hN, hbs, hXW⟩, hNC⟩ := hv
  have hx := B.exec
  have hb := B.bytes
  have hr := B.returns
  have hts := atoms_spec (ws := wsL_fill) B.pre
  have hown : s.vm.findClass RL = some m.cls := findClass_of_methodNamed B.named
  have hlocks := B.notSynchronized
  have htab := vx_table (x := yL_fill) B (hts _ List.mem_cons_self)
  subst hsz
  have hD := hD0.self (sz := s.heap.size)
  generalize hAe : va_A ((wFm aF aN aT aL aO aH aP aX ++ (wSt cI aN S ++ (wLo cI aL Y ++ (wOu aO aN aL ++ (wHi cS aH ah G ++ (wZs cI ah Z)))))) ++ wOt cJ ao f) s.heap.size = A at hD ⊢
  have hA : ∀ q : Nat, s.heap.size ≤ q → A q := fun q h => by rw [← hAe]; exact Or.inr h
  have hS : va_S A s.heap s.heap [] := va_S.rf
  have hP : va_P (dC, dI) vwCl ((wFm aF aN aT aL aO aH aP aX ++ (wSt cI aN S ++ (wLo cI aL Y ++ (wOu aO aN aL ++ (wHi cS aH ah G ++ (wZs cI ah Z)))))) ++ wOt cJ ao f) s.heap := hP
  have hK3 := hK.sub (tys' := tyS cI cZ cS) [0, 1, 2] rfl
  have hl := lv_entry ([.ref (aF 0), .int p1, .ref ao]) (n := 4) (Nat.le_of_ble_eq_true rfl)
  rw [lg_entry_eq]
  generalize (lg_sl ([.ref (aF 0), .int p1, .ref ao]) ++ List.replicate (4 - (lg_sl ([.ref (aF 0), .int p1, .ref ao])).length) Slot.unset).toArray = ls at hl ⊢
  have hl : lv_has ls 4 [(0, .ref (aF 0)), (1, .int p1), (2, .ref ao)] := hl
  refine lv_aload_n hx hb dL_fill_0 rfl (lv_at hl 2 rfl) ?_
  refine lv_iconst (v := (0 : Int32)) hx hb dL_fill_1 (by decide) ?_
  refine lv_aload_n hx hb dL_fill_2 rfl (lv_at hl 0 rfl) ?_
  refine lv_iload_n hx hb dL_fill_3 rfl (lv_at hl 1 rfl) ?_
  have hF := va_free (wc := wFm aF aN aT aL aO aH aP aX ++ (wSt cI aN S ++ (wLo cI aL Y ++ (wOu aO aN aL ++ (wHi cS aH ah G ++ (wZs cI ah Z)))))) hD hS hA [0, 1, 2, 3, 4, 5, 6, 7, 8, 9, 10, 11, 12, 13, 14, 15, 16, 17, 18, 19, 20, 21, 22, 23, 24, 25, 26, 27, 28, 29, 30, 31, 32, 33, 34, 35, 36, 37, 38, 39, 40, 41, 42, 43, 44, 45, 46, 47, 48, 49, 50, 51, 52, 53, 54, 55, 56, 57, 58, 59, 60, 61, 62, 63, 64, 65, 66, 67, 68, 69, 70, 71, 72, 73, 74, 75, 76, 77, 78, 79, 80, 81, 82, 83] rfl
  refine vx_calli (vx_runV (As := [.int p1]) (rest := [.int (0 : Int32), .ref ao]) ⟨hx, hb, hml, hown, hts⟩ (met_X6_fill l hfl dC dI cI cZ cS aF aN aT aL aO aH ah aP aX S Y G Z base s.heap.size p1 res hR) (cwV 1 hts gL_fill_X6_fill rfl rfl rfl (by decide +kernel) ⟨Nat.le_of_ble_eq_true rfl, Nat.le_of_ble_eq_true rfl⟩) (pXV (wc := wFm aF aN aT aL aO aH aP aX ++ (wSt cI aN S ++ (wLo cI aL Y ++ (wOu aO aN aL ++ (wHi cS aH ah G ++ (wZs cI ah Z)))))) (ci := 6) (q0 := 0) hK3 hP hD0 hN hbs hXW [0, 1, 2, 3, 4, 5, 6, 7, 8, 9, 10, 11, 12, 13, 14, 15, 16, 17, 18, 19, 20, 21, 22, 23, 24, 25, 26, 27, 28, 29, 30, 31, 32, 33, 34, 35, 36, 37, 38, 39, 40, 41, 42, 43, 44, 45, 46, 47, 48, 49, 50, 51, 52, 53, 54, 55, 56, 57, 58, 59, 60, 61, 62, 63, 64, 65, 66, 67, 68, 69, 70, 71, 72, 73, 74, 75, 76, 77, 78, 79, 80, 81, 82, 83] rfl (by decide) rfl rfl) rfl rfl hl.1 rfl (lv_room (Nat.le_of_ble_eq_true rfl)) dL_fill_4 ⟨Nat.le_of_ble_eq_true rfl, Nat.le_of_ble_eq_true rfl⟩) hS (fun q _ h => hF q h) hF (fun q _ h => hF q h) (fun E ce q9 u t H1 locs ht hvm hpx hB hz1 hk1 hS hce hcv hcl => ?_) (fun r u t H1 locs ht hvm hw hB hz1 hk1 hS => ?_)
  · obtain ⟨c, hE, hc0, hres, hB⟩ := hB
    rw [ht] at hB
    have hP := wrk2 (w2 := (wFm aF aN aT aL aO aH aP aX ++ (wSt cI aN u.1 ++ (wLo cI aL u.2.1 ++ (wOu aO aN aL ++ (wHi cS aH ah u.2.2.1 ++ (wZs cI ah u.2.2.2)))))) ++ wOt cJ ao f) (wr := wOt cJ ao f) hP hD [0, 1, 2, 3, 4, 5, 6, 7, 8, 9, 10, 11, 12, 13, 14, 15, 16, 17, 18, 19, 20, 21, 22, 23, 24, 25, 26, 27, 28, 29, 30, 31, 32, 33, 34, 35, 36, 37, 38, 39, 40, 41, 42, 43, 44, 45, 46, 47, 48, 49, 50, 51, 52, 53, 54, 55, 56, 57, 58, 59, 60, 61, 62, 63, 64, 65, 66, 67, 68, 69, 70, 71, 72, 73, 74, 75, 76, 77, 78, 79, 80, 81, 82, 83] [84] rfl rfl (by decide) hk1 hB [1, 2, 3, 4, 5, 6, 7, 8, 9, 10, 11, 12, 13, 14, 15, 16, 17, 18, 19, 20, 21, 22, 23, 24, 25, 26, 27, 28, 29, 30, 31, 32, 33, 34, 35, 36, 37, 38, 39, 40, 41, 42, 43, 44, 45, 46, 47, 48, 49, 50, 51, 52, 53, 54, 55, 56, 57, 58, 59, 60, 61, 62, 63, 64, 65, 66, 67, 68, 69, 70, 71, 72, 73, 74, 75, 76, 77, 78, 79, 80, 81, 82, 83, 84, 0] rfl
    have hD := D_addr (w1 := (wFm aF aN aT aL aO aH aP aX ++ (wSt cI aN u.1 ++ (wLo cI aL u.2.1 ++ (wOu aO aN aL ++ (wHi cS aH ah u.2.2.1 ++ (wZs cI ah u.2.2.2)))))) ++ wOt cJ ao f) hD rfl
    have hres2 := hres
    have hcs := hks c 0 ⟨u, hres⟩
    rcases hcs with hcs | ⟨i, hi⟩
    · exact absurd hcs hc0
    have hil : i < 1 := by
      rcases Nat.lt_or_ge i 1 with q | q
      · exact q
      · rw [List.getElem?_eq_none (by simpa using q)] at hi; cases hi
    have hik : i = 0 := by omega
    rcases hik with rfl
    · have hc : c = 1 := (Option.some.inj hi).symm
      have hE : E = "java/lang/IndexOutOfBoundsException" := hE.symm.trans (by rw [hc]; rfl)
      subst hE
      refine vx_catch (name := "java/lang/IndexOutOfBoundsException") hown [] ⟨0, 9, 12, 21⟩ [] (htab.trans rfl) (fun z hz => by cases hz) (by decide) (by decide) (hts (.classLink RL 21 "java/lang/IndexOutOfBoundsException") (by decide +kernel)) ((hXW.2.2.2.1 "java/lang/IndexOutOfBoundsException" (by decide)).use rfl) hce hcv hcl ?_
      refine lv_astore_n (lv' := [(3, .ref q9), (0, .ref (aF 0)), (1, .int p1), (2, .ref ao)]) hx hb dL_fill_12 rfl hl (by decide) rfl (fun ls hl => ?_)
      refine lv_iconst (v := (1 : Int32)) hx hb dL_fill_13 (by decide) ?_
      exact W.widen (k := 1) (n := 6) (Nat.le_of_ble_eq_true rfl) (Nat.le_of_ble_eq_true rfl) (W.iret (v := (1 : Int32)) hx hb hr (fun t ht hW => ⟨⟨(1 : Int32), (u, f), rfl, ⟨c, 0, hres, Or.inr ⟨0, hi, rfl⟩⟩, P_at ht hP⟩, hS.F ht⟩) hS.2.2 dL_fill_14)
  · rw [ht] at hB
    have hP := wrk2 (w2 := (wFm aF aN aT aL aO aH aP aX ++ (wSt cI aN u.1 ++ (wLo cI aL u.2.1 ++ (wOu aO aN aL ++ (wHi cS aH ah u.2.2.1 ++ (wZs cI ah u.2.2.2)))))) ++ wOt cJ ao f) (wr := wOt cJ ao f) hP hD [0, 1, 2, 3, 4, 5, 6, 7, 8, 9, 10, 11, 12, 13, 14, 15, 16, 17, 18, 19, 20, 21, 22, 23, 24, 25, 26, 27, 28, 29, 30, 31, 32, 33, 34, 35, 36, 37, 38, 39, 40, 41, 42, 43, 44, 45, 46, 47, 48, 49, 50, 51, 52, 53, 54, 55, 56, 57, 58, 59, 60, 61, 62, 63, 64, 65, 66, 67, 68, 69, 70, 71, 72, 73, 74, 75, 76, 77, 78, 79, 80, 81, 82, 83] [84] rfl rfl (by decide) hk1 hB [1, 2, 3, 4, 5, 6, 7, 8, 9, 10, 11, 12, 13, 14, 15, 16, 17, 18, 19, 20, 21, 22, 23, 24, 25, 26, 27, 28, 29, 30, 31, 32, 33, 34, 35, 36, 37, 38, 39, 40, 41, 42, 43, 44, 45, 46, 47, 48, 49, 50, 51, 52, 53, 54, 55, 56, 57, 58, 59, 60, 61, 62, 63, 64, 65, 66, 67, 68, 69, 70, 71, 72, 73, 74, 75, 76, 77, 78, 79, 80, 81, 82, 83, 84, 0] rfl
    have hD := D_addr (w1 := (wFm aF aN aT aL aO aH aP aX ++ (wSt cI aN u.1 ++ (wLo cI aL u.2.1 ++ (wOu aO aN aL ++ (wHi cS aH ah u.2.2.1 ++ (wZs cI ah u.2.2.2)))))) ++ wOt cJ ao f) hD rfl
    refine lv_i2l (v := r.toInt64) hx hb dL_fill_7 rfl ?_
    refine va_last hx hb hK hP hD hS 84 3 rfl rfl (by unfold vp_in; decide) dL_fill_8 (fun H2 locs2 hP hD hS => ?_)
    refine lv_goto (tgt := 15) hx hb dL_fill_9 (by decide) ?_
    refine lv_iconst (v := (0 : Int32)) hx hb dL_fill_15 (by decide) ?_
    have hP : va_P (dC, dI) vwCl ((wFm aF aN aT aL aO aH aP aX ++ (wSt cI aN u.1 ++ (wLo cI aL u.2.1 ++ (wOu aO aN aL ++ (wHi cS aH ah u.2.2.1 ++ (wZs cI ah u.2.2.2)))))) ++ wOt cJ ao (vp_updL f 0 r.toInt64)) H2 := hP
    exact W.widen (k := 1) (n := 6) (Nat.le_of_ble_eq_true rfl) (Nat.le_of_ble_eq_true rfl) (W.iret (v := (0 : Int32)) hx hb hr (fun t ht hW => ⟨⟨(0 : Int32), (u, vp_updL f 0 r.toInt64), rfl, ⟨0, r, hw, Or.inl ⟨rfl, rfl, rfl⟩⟩, P_at ht hP⟩, hS.F ht⟩) hS.2.2 dL_fill_16)
abbrev rm_L_append : Room := { frames := 7, cells := 1, slots := 6, locals := 113 }
abbrev q_L_append (dC : Nat → ClassId) (dI : Nat → Nat → Nat) (cI cZ cS cJ : ClassId) (aF aN aT aL aO aH : Nat → Nat) (ah : Nat → Nat → Nat) (aP aX : Nat → Nat) (ao : Nat) (T : Pic) (res : Int32 × Int32 × Pic) (A : Nat → Prop) : Array Value → State → Outcome → State → Prop := va_Qi (fun (k : Int32) (u : (Pic) × (Nat → Int64)) => ∃ c r : Int32, (c, r, u.1) = res ∧ wrp [2, 3] c r k (u.2 0)) (fun u t => va_P (dC, dI) vwCl ((wFm aF aN aT aL aO aH aP aX ++ (wTx cI aX u.1)) ++ wOt cJ ao u.2) t.heap) A
set_option maxHeartbeats 4000000 in
set_option maxRecDepth 100000 in
theorem met_L_append (l : Launch) (hfl : l.stackTraces = false) (dC : Nat → ClassId) (dI : Nat → Nat → Nat) (cI cZ cS cJ : ClassId) (aF aN aT aL aO aH : Nat → Nat) (ah : Nat → Nat → Nat) (aP aX : Nat → Nat) (ao : Nat) (f : Nat → Int64) (T : Pic) (base sz : Nat) (p1 : Int32) (res : Int32 × Int32 × Pic) (hR : f6_append T p1 = res) (hks : ∀ c r, (∃ u, (c, r, u) = res) → c = 0 ∨ ∃ i : Nat, ([2, 3] : List Int32)[i]? = some c) : Met l yL_append wsL_append rm_L_append (va_Pc [.ref (aF 0), .int p1, .ref ao] (pL (dC, dI) cI cZ cS cJ ((wFm aF aN aT aL aO aH aP aX ++ (wTx cI aX T)) ++ wOt cJ ao f) base sz)) (q_L_append dC dI cI cZ cS cJ aF aN aT aL aO aH ah aP aX ao T res (va_A ((wFm aF aN aT aL aO aH aP aX ++ (wTx cI aX T)) ++ wOt cJ ao f) sz)) 1 6 (va_A ((wFm aF aN aT aL aO aH aP aX ++ (wTx cI aX T)) ++ wOt cJ ao f) sz) := by
  refine met_ofWH (cc := cL_append) (maxL := 4) (ret := some .int) (hh := [(0, 9, 12, 13), (0, 9, 15, 15)]) (by decide) rfl ?_
  intro p e s m args below meth c s₁ B hml hv
  obtain ⟨rfl, ⟨hsz, hP, hK, hD0, hN, hbs, hXW⟩, hNC⟩ := hv
  have hx := B.exec
  have hb := B.bytes
  have hr := B.returns
  have hts := atoms_spec (ws := wsL_append) B.pre
  have hown : s.vm.findClass RL = some m.cls := findClass_of_methodNamed B.named
  have hlocks := B.notSynchronized
  have htab := vx_table (x := yL_append) B (hts _ List.mem_cons_self)
  subst hsz
  have hD := hD0.self (sz := s.heap.size)
  generalize hAe : va_A ((wFm aF aN aT aL aO aH aP aX ++ (wTx cI aX T)) ++ wOt cJ ao f) s.heap.size = A at hD ⊢
  have hA : ∀ q : Nat, s.heap.size ≤ q → A q := fun q h => by rw [← hAe]; exact Or.inr h
  have hS : va_S A s.heap s.heap [] := va_S.rf
  have hP : va_P (dC, dI) vwCl ((wFm aF aN aT aL aO aH aP aX ++ (wTx cI aX T)) ++ wOt cJ ao f) s.heap := hP
  have hK3 := hK.sub (tys' := tyS cI cZ cS) [0, 1, 2] rfl
  have hl := lv_entry ([.ref (aF 0), .int p1, .ref ao]) (n := 4) (Nat.le_of_ble_eq_true rfl)
  rw [lg_entry_eq]
  generalize (lg_sl ([.ref (aF 0), .int p1, .ref ao]) ++ List.replicate (4 - (lg_sl ([.ref (aF 0), .int p1, .ref ao])).length) Slot.unset).toArray = ls at hl ⊢
  have hl : lv_has ls 4 [(0, .ref (aF 0)), (1, .int p1), (2, .ref ao)] := hl
  refine lv_aload_n hx hb dL_append_0 rfl (lv_at hl 2 rfl) ?_
  refine lv_iconst (v := (0 : Int32)) hx hb dL_append_1 (by decide) ?_
  refine lv_aload_n hx hb dL_append_2 rfl (lv_at hl 0 rfl) ?_
  refine lv_iload_n hx hb dL_append_3 rfl (lv_at hl 1 rfl) ?_
  have hF := va_free (wc := wFm aF aN aT aL aO aH aP aX ++ (wTx cI aX T)) hD hS hA [0, 1, 2] rfl
  subst hR
  refine vx_calli (vx_runV (As := [.int p1]) (rest := [.int (0 : Int32), .ref ao]) ⟨hx, hb, hml, hown, hts⟩ (met_X6_append l hfl dC dI cI cZ cS aF aN aT aL aO aH ah aP aX T base s.heap.size p1) (cwV 1 hts gL_append_X6_append rfl rfl rfl (by decide +kernel) ⟨Nat.le_of_ble_eq_true rfl, Nat.le_of_ble_eq_true rfl⟩) (pXV (wc := wFm aF aN aT aL aO aH aP aX ++ (wTx cI aX T)) (ci := 6) (q0 := 0) hK3 hP hD0 hN hbs hXW [0, 1, 2] rfl (by decide) rfl rfl) rfl rfl hl.1 rfl (lv_room (Nat.le_of_ble_eq_true rfl)) dL_append_4 ⟨Nat.le_of_ble_eq_true rfl, Nat.le_of_ble_eq_true rfl⟩) hS (fun q _ h => hF q h) hF (fun q _ h => hF q h) (fun E ce q9 u t H1 locs ht hvm hpx hB hz1 hk1 hS hce hcv hcl => ?_) (fun r u t H1 locs ht hvm hw hB hz1 hk1 hS => ?_)
  · obtain ⟨c, hE, hc0, hres, hB⟩ := hB
    rw [ht] at hB
    have hP := wrk2 (w2 := (wFm aF aN aT aL aO aH aP aX ++ (wTx cI aX u)) ++ wOt cJ ao f) (wr := wOt cJ ao f) hP hD [0, 1, 2] [3] rfl rfl (by decide) hk1 hB [1, 2, 3, 0] rfl
    have hD := D_addr (w1 := (wFm aF aN aT aL aO aH aP aX ++ (wTx cI aX u)) ++ wOt cJ ao f) hD rfl
    have hres2 := hres
    have hcs := hks c 0 ⟨u, hres⟩
    rcases hcs with hcs | ⟨i, hi⟩
    · exact absurd hcs hc0
    have hil : i < 2 := by
      rcases Nat.lt_or_ge i 2 with q | q
      · exact q
      · rw [List.getElem?_eq_none (by simpa using q)] at hi; cases hi
    have hik : i = 0 ∨ i = 1 := by omega
    rcases hik with rfl | rfl
    · have hc : c = 2 := (Option.some.inj hi).symm
      have hE : E = "java/lang/IllegalArgumentException" := hE.symm.trans (by rw [hc]; rfl)
      subst hE
      refine vx_catch (name := "java/lang/IllegalArgumentException") hown [] ⟨0, 9, 12, 13⟩ [⟨0, 9, 15, 15⟩] (htab.trans rfl) (fun z hz => by cases hz) (by decide) (by decide) (hts (.classLink RL 13 "java/lang/IllegalArgumentException") (by decide +kernel)) ((hXW.2.2.2.1 "java/lang/IllegalArgumentException" (by decide)).use rfl) hce hcv hcl ?_
      refine lv_astore_n (lv' := [(3, .ref q9), (0, .ref (aF 0)), (1, .int p1), (2, .ref ao)]) hx hb dL_append_12 rfl hl (by decide) rfl (fun ls hl => ?_)
      refine lv_iconst (v := (1 : Int32)) hx hb dL_append_13 (by decide) ?_
      exact W.widen (k := 1) (n := 6) (Nat.le_of_ble_eq_true rfl) (Nat.le_of_ble_eq_true rfl) (W.iret (v := (1 : Int32)) hx hb hr (fun t ht hW => ⟨⟨(1 : Int32), (u, f), rfl, ⟨c, 0, hres, Or.inr ⟨0, hi, rfl⟩⟩, P_at ht hP⟩, hS.F ht⟩) hS.2.2 dL_append_14)
    · have hc : c = 3 := (Option.some.inj hi).symm
      have hE : E = "java/lang/IllegalStateException" := hE.symm.trans (by rw [hc]; rfl)
      subst hE
      refine vx_catch (name := "java/lang/IllegalStateException") hown [⟨0, 9, 12, 13⟩] ⟨0, 9, 15, 15⟩ [] (htab.trans rfl) (List.forall_mem_cons.mpr ⟨Or.inr ⟨by decide, "java/lang/IllegalArgumentException", (hts (.classLink RL 13 "java/lang/IllegalArgumentException") (by decide +kernel)), hNC ("java/lang/IllegalStateException", "java/lang/IllegalArgumentException") (by decide)⟩, (fun z hz => by cases hz)⟩) (by decide) (by decide) (hts (.classLink RL 15 "java/lang/IllegalStateException") (by decide +kernel)) ((hXW.2.2.2.1 "java/lang/IllegalStateException" (by decide)).use rfl) hce hcv hcl ?_
      refine lv_astore_n (lv' := [(3, .ref q9), (0, .ref (aF 0)), (1, .int p1), (2, .ref ao)]) hx hb dL_append_15 rfl hl (by decide) rfl (fun ls hl => ?_)
      refine lv_iconst (v := (2 : Int32)) hx hb dL_append_16 (by decide) ?_
      exact W.widen (k := 1) (n := 6) (Nat.le_of_ble_eq_true rfl) (Nat.le_of_ble_eq_true rfl) (W.iret (v := (2 : Int32)) hx hb hr (fun t ht hW => ⟨⟨(2 : Int32), (u, f), rfl, ⟨c, 0, hres, Or.inr ⟨1, hi, rfl⟩⟩, P_at ht hP⟩, hS.F ht⟩) hS.2.2 dL_append_17)
  · rw [ht] at hB
    have hP := wrk2 (w2 := (wFm aF aN aT aL aO aH aP aX ++ (wTx cI aX u)) ++ wOt cJ ao f) (wr := wOt cJ ao f) hP hD [0, 1, 2] [3] rfl rfl (by decide) hk1 hB [1, 2, 3, 0] rfl
    have hD := D_addr (w1 := (wFm aF aN aT aL aO aH aP aX ++ (wTx cI aX u)) ++ wOt cJ ao f) hD rfl
    refine lv_i2l (v := r.toInt64) hx hb dL_append_7 rfl ?_
    refine va_last hx hb hK hP hD hS 3 3 rfl rfl (by unfold vp_in; decide) dL_append_8 (fun H2 locs2 hP hD hS => ?_)
    refine lv_goto (tgt := 18) hx hb dL_append_9 (by decide) ?_
    refine lv_iconst (v := (0 : Int32)) hx hb dL_append_18 (by decide) ?_
    have hP : va_P (dC, dI) vwCl ((wFm aF aN aT aL aO aH aP aX ++ (wTx cI aX u)) ++ wOt cJ ao (vp_updL f 0 r.toInt64)) H2 := hP
    exact W.widen (k := 1) (n := 6) (Nat.le_of_ble_eq_true rfl) (Nat.le_of_ble_eq_true rfl) (W.iret (v := (0 : Int32)) hx hb hr (fun t ht hW => ⟨⟨(0 : Int32), (u, vp_updL f 0 r.toInt64), rfl, ⟨0, r, hw, Or.inl ⟨rfl, rfl, rfl⟩⟩, P_at ht hP⟩, hS.F ht⟩) hS.2.2 dL_append_19)
abbrev rm_L_read : Room := { frames := 7, cells := 1, slots := 6, locals := 176 }
abbrev q_L_read (dC : Nat → ClassId) (dI : Nat → Nat → Nat) (cI cZ cS cJ : ClassId) (aF aN aT aL aO aH : Nat → Nat) (ah : Nat → Nat → Nat) (aP aX : Nat → Nat) (ao : Nat) (S : Pic) (Y : Pic) (G : Pic) (Z : (Nat → Pic)) (T : Pic) (res : Int32 × Int32 × Pic × Pic × Pic × (Nat → Pic) × Pic) (A : Nat → Prop) : Array Value → State → Outcome → State → Prop := va_Qi (fun (k : Int32) (u : (Pic × Pic × Pic × (Nat → Pic) × Pic) × (Nat → Int64)) => ∃ c r : Int32, (c, r, u.1) = res ∧ wrp [2] c r k (u.2 0)) (fun u t => va_P (dC, dI) vwCl ((wFm aF aN aT aL aO aH aP aX ++ (wSt cI aN u.1.1 ++ (wLo cI aL u.1.2.1 ++ (wOu aO aN aL ++ (wHi cS aH ah u.1.2.2.1 ++ (wZs cI ah u.1.2.2.2.1 ++ (wTx cI aX u.1.2.2.2.2))))))) ++ wOt cJ ao u.2) t.heap) A
set_option maxHeartbeats 4000000 in
set_option maxRecDepth 100000 in
theorem met_L_read (l : Launch) (hfl : l.stackTraces = false) (dC : Nat → ClassId) (dI : Nat → Nat → Nat) (cI cZ cS cJ : ClassId) (aF aN aT aL aO aH : Nat → Nat) (ah : Nat → Nat → Nat) (aP aX : Nat → Nat) (ao : Nat) (f : Nat → Int64) (S : Pic) (Y : Pic) (G : Pic) (Z : (Nat → Pic)) (T : Pic) (base sz : Nat)  (res : Int32 × Int32 × Pic × Pic × Pic × (Nat → Pic) × Pic) (hR : f6_read S Y G Z T = res) (hks : ∀ c r, (∃ u, (c, r, u) = res) → c = 0 ∨ ∃ i : Nat, ([2] : List Int32)[i]? = some c) : Met l yL_read wsL_read rm_L_read (va_Pc [.ref (aF 0), .ref ao] (pL (dC, dI) cI cZ cS cJ ((wFm aF aN aT aL aO aH aP aX ++ (wSt cI aN S ++ (wLo cI aL Y ++ (wOu aO aN aL ++ (wHi cS aH ah G ++ (wZs cI ah Z ++ (wTx cI aX T))))))) ++ wOt cJ ao f) base sz)) (q_L_read dC dI cI cZ cS cJ aF aN aT aL aO aH ah aP aX ao S Y G Z T res (va_A ((wFm aF aN aT aL aO aH aP aX ++ (wSt cI aN S ++ (wLo cI aL Y ++ (wOu aO aN aL ++ (wHi cS aH ah G ++ (wZs cI ah Z ++ (wTx cI aX T))))))) ++ wOt cJ ao f) sz)) 1 6 (va_A ((wFm aF aN aT aL aO aH aP aX ++ (wSt cI aN S ++ (wLo cI aL Y ++ (wOu aO aN aL ++ (wHi cS aH ah G ++ (wZs cI ah Z ++ (wTx cI aX T))))))) ++ wOt cJ ao f) sz) := by
  refine met_ofWH (cc := cL_read) (maxL := 3) (ret := some .int) (hh := [(0, 8, 11, 13)]) (by decide) rfl ?_
  intro p e s m args below meth c s₁ B hml hv
  obtain ⟨rfl, ⟨hsz, hP, hK, hD0, hN, hbs, hXW⟩, hNC⟩ := hv
  have hx := B.exec
  have hb := B.bytes
  have hr := B.returns
  have hts := atoms_spec (ws := wsL_read) B.pre
  have hown : s.vm.findClass RL = some m.cls := findClass_of_methodNamed B.named
  have hlocks := B.notSynchronized
  have htab := vx_table (x := yL_read) B (hts _ List.mem_cons_self)
  subst hsz
  have hD := hD0.self (sz := s.heap.size)
  generalize hAe : va_A ((wFm aF aN aT aL aO aH aP aX ++ (wSt cI aN S ++ (wLo cI aL Y ++ (wOu aO aN aL ++ (wHi cS aH ah G ++ (wZs cI ah Z ++ (wTx cI aX T))))))) ++ wOt cJ ao f) s.heap.size = A at hD ⊢
  have hA : ∀ q : Nat, s.heap.size ≤ q → A q := fun q h => by rw [← hAe]; exact Or.inr h
  have hS : va_S A s.heap s.heap [] := va_S.rf
  have hP : va_P (dC, dI) vwCl ((wFm aF aN aT aL aO aH aP aX ++ (wSt cI aN S ++ (wLo cI aL Y ++ (wOu aO aN aL ++ (wHi cS aH ah G ++ (wZs cI ah Z ++ (wTx cI aX T))))))) ++ wOt cJ ao f) s.heap := hP
  have hK3 := hK.sub (tys' := tyS cI cZ cS) [0, 1, 2] rfl
  have hl := lv_entry ([.ref (aF 0), .ref ao]) (n := 3) (Nat.le_of_ble_eq_true rfl)
  rw [lg_entry_eq]
  generalize (lg_sl ([.ref (aF 0), .ref ao]) ++ List.replicate (3 - (lg_sl ([.ref (aF 0), .ref ao])).length) Slot.unset).toArray = ls at hl ⊢
  have hl : lv_has ls 3 [(0, .ref (aF 0)), (1, .ref ao)] := hl
  refine lv_aload_n hx hb dL_read_0 rfl (lv_at hl 1 rfl) ?_
  refine lv_iconst (v := (0 : Int32)) hx hb dL_read_1 (by decide) ?_
  refine lv_aload_n hx hb dL_read_2 rfl (lv_at hl 0 rfl) ?_
  have hF := va_free (wc := wFm aF aN aT aL aO aH aP aX ++ (wSt cI aN S ++ (wLo cI aL Y ++ (wOu aO aN aL ++ (wHi cS aH ah G ++ (wZs cI ah Z ++ (wTx cI aX T))))))) hD hS hA [0, 1, 2, 3, 4, 5, 6, 7, 8, 9, 10, 11, 12, 13, 14, 15, 16, 17, 18, 19, 20, 21, 22, 23, 24, 25, 26, 27, 28, 29, 30, 31, 32, 33, 34, 35, 36, 37, 38, 39, 40, 41, 42, 43, 44, 45, 46, 47, 48, 49, 50, 51, 52, 53, 54, 55, 56, 57, 58, 59, 60, 61, 62, 63, 64, 65, 66, 67, 68, 69, 70, 71, 72, 73, 74, 75, 76, 77, 78, 79, 80, 81, 82, 83, 84, 85] rfl
  subst hR
  refine vx_calli (vx_runV (As := []) (rest := [.int (0 : Int32), .ref ao]) ⟨hx, hb, hml, hown, hts⟩ (met_X6_read l hfl dC dI cI cZ cS aF aN aT aL aO aH ah aP aX S Y G Z T base s.heap.size) (cwV 0 hts gL_read_X6_read rfl rfl rfl (by decide +kernel) ⟨Nat.le_of_ble_eq_true rfl, Nat.le_of_ble_eq_true rfl⟩) (pXV (wc := wFm aF aN aT aL aO aH aP aX ++ (wSt cI aN S ++ (wLo cI aL Y ++ (wOu aO aN aL ++ (wHi cS aH ah G ++ (wZs cI ah Z ++ (wTx cI aX T))))))) (ci := 6) (q0 := 0) hK3 hP hD0 hN hbs hXW [0, 1, 2, 3, 4, 5, 6, 7, 8, 9, 10, 11, 12, 13, 14, 15, 16, 17, 18, 19, 20, 21, 22, 23, 24, 25, 26, 27, 28, 29, 30, 31, 32, 33, 34, 35, 36, 37, 38, 39, 40, 41, 42, 43, 44, 45, 46, 47, 48, 49, 50, 51, 52, 53, 54, 55, 56, 57, 58, 59, 60, 61, 62, 63, 64, 65, 66, 67, 68, 69, 70, 71, 72, 73, 74, 75, 76, 77, 78, 79, 80, 81, 82, 83, 84, 85] rfl (by decide) rfl rfl) rfl rfl hl.1 rfl (lv_room (Nat.le_of_ble_eq_true rfl)) dL_read_3 ⟨Nat.le_of_ble_eq_true rfl, Nat.le_of_ble_eq_true rfl⟩) hS (fun q _ h => hF q h) hF (fun q _ h => hF q h) (fun E ce q9 u t H1 locs ht hvm hpx hB hz1 hk1 hS hce hcv hcl => ?_) (fun r u t H1 locs ht hvm hw hB hz1 hk1 hS => ?_)
  · obtain ⟨c, hE, hc0, hres, hB⟩ := hB
    rw [ht] at hB
    have hP := wrk2 (w2 := (wFm aF aN aT aL aO aH aP aX ++ (wSt cI aN u.1 ++ (wLo cI aL u.2.1 ++ (wOu aO aN aL ++ (wHi cS aH ah u.2.2.1 ++ (wZs cI ah u.2.2.2.1 ++ (wTx cI aX u.2.2.2.2))))))) ++ wOt cJ ao f) (wr := wOt cJ ao f) hP hD [0, 1, 2, 3, 4, 5, 6, 7, 8, 9, 10, 11, 12, 13, 14, 15, 16, 17, 18, 19, 20, 21, 22, 23, 24, 25, 26, 27, 28, 29, 30, 31, 32, 33, 34, 35, 36, 37, 38, 39, 40, 41, 42, 43, 44, 45, 46, 47, 48, 49, 50, 51, 52, 53, 54, 55, 56, 57, 58, 59, 60, 61, 62, 63, 64, 65, 66, 67, 68, 69, 70, 71, 72, 73, 74, 75, 76, 77, 78, 79, 80, 81, 82, 83, 84, 85] [86] rfl rfl (by decide) hk1 hB [1, 2, 3, 4, 5, 6, 7, 8, 9, 10, 11, 12, 13, 14, 15, 16, 17, 18, 19, 20, 21, 22, 23, 24, 25, 26, 27, 28, 29, 30, 31, 32, 33, 34, 35, 36, 37, 38, 39, 40, 41, 42, 43, 44, 45, 46, 47, 48, 49, 50, 51, 52, 53, 54, 55, 56, 57, 58, 59, 60, 61, 62, 63, 64, 65, 66, 67, 68, 69, 70, 71, 72, 73, 74, 75, 76, 77, 78, 79, 80, 81, 82, 83, 84, 85, 86, 0] rfl
    have hD := D_addr (w1 := (wFm aF aN aT aL aO aH aP aX ++ (wSt cI aN u.1 ++ (wLo cI aL u.2.1 ++ (wOu aO aN aL ++ (wHi cS aH ah u.2.2.1 ++ (wZs cI ah u.2.2.2.1 ++ (wTx cI aX u.2.2.2.2))))))) ++ wOt cJ ao f) hD rfl
    have hres2 := hres
    have hcs := hks c 0 ⟨u, hres⟩
    rcases hcs with hcs | ⟨i, hi⟩
    · exact absurd hcs hc0
    have hil : i < 1 := by
      rcases Nat.lt_or_ge i 1 with q | q
      · exact q
      · rw [List.getElem?_eq_none (by simpa using q)] at hi; cases hi
    have hik : i = 0 := by omega
    rcases hik with rfl
    · have hc : c = 2 := (Option.some.inj hi).symm
      have hE : E = "java/lang/IllegalArgumentException" := hE.symm.trans (by rw [hc]; rfl)
      subst hE
      refine vx_catch (name := "java/lang/IllegalArgumentException") hown [] ⟨0, 8, 11, 13⟩ [] (htab.trans rfl) (fun z hz => by cases hz) (by decide) (by decide) (hts (.classLink RL 13 "java/lang/IllegalArgumentException") (by decide +kernel)) ((hXW.2.2.2.1 "java/lang/IllegalArgumentException" (by decide)).use rfl) hce hcv hcl ?_
      refine lv_astore_n (lv' := [(2, .ref q9), (0, .ref (aF 0)), (1, .ref ao)]) hx hb dL_read_11 rfl hl (by decide) rfl (fun ls hl => ?_)
      refine lv_iconst (v := (1 : Int32)) hx hb dL_read_12 (by decide) ?_
      exact W.widen (k := 1) (n := 6) (Nat.le_of_ble_eq_true rfl) (Nat.le_of_ble_eq_true rfl) (W.iret (v := (1 : Int32)) hx hb hr (fun t ht hW => ⟨⟨(1 : Int32), (u, f), rfl, ⟨c, 0, hres, Or.inr ⟨0, hi, rfl⟩⟩, P_at ht hP⟩, hS.F ht⟩) hS.2.2 dL_read_13)
  · rw [ht] at hB
    have hP := wrk2 (w2 := (wFm aF aN aT aL aO aH aP aX ++ (wSt cI aN u.1 ++ (wLo cI aL u.2.1 ++ (wOu aO aN aL ++ (wHi cS aH ah u.2.2.1 ++ (wZs cI ah u.2.2.2.1 ++ (wTx cI aX u.2.2.2.2))))))) ++ wOt cJ ao f) (wr := wOt cJ ao f) hP hD [0, 1, 2, 3, 4, 5, 6, 7, 8, 9, 10, 11, 12, 13, 14, 15, 16, 17, 18, 19, 20, 21, 22, 23, 24, 25, 26, 27, 28, 29, 30, 31, 32, 33, 34, 35, 36, 37, 38, 39, 40, 41, 42, 43, 44, 45, 46, 47, 48, 49, 50, 51, 52, 53, 54, 55, 56, 57, 58, 59, 60, 61, 62, 63, 64, 65, 66, 67, 68, 69, 70, 71, 72, 73, 74, 75, 76, 77, 78, 79, 80, 81, 82, 83, 84, 85] [86] rfl rfl (by decide) hk1 hB [1, 2, 3, 4, 5, 6, 7, 8, 9, 10, 11, 12, 13, 14, 15, 16, 17, 18, 19, 20, 21, 22, 23, 24, 25, 26, 27, 28, 29, 30, 31, 32, 33, 34, 35, 36, 37, 38, 39, 40, 41, 42, 43, 44, 45, 46, 47, 48, 49, 50, 51, 52, 53, 54, 55, 56, 57, 58, 59, 60, 61, 62, 63, 64, 65, 66, 67, 68, 69, 70, 71, 72, 73, 74, 75, 76, 77, 78, 79, 80, 81, 82, 83, 84, 85, 86, 0] rfl
    have hD := D_addr (w1 := (wFm aF aN aT aL aO aH aP aX ++ (wSt cI aN u.1 ++ (wLo cI aL u.2.1 ++ (wOu aO aN aL ++ (wHi cS aH ah u.2.2.1 ++ (wZs cI ah u.2.2.2.1 ++ (wTx cI aX u.2.2.2.2))))))) ++ wOt cJ ao f) hD rfl
    refine lv_i2l (v := r.toInt64) hx hb dL_read_6 rfl ?_
    refine va_last hx hb hK hP hD hS 86 3 rfl rfl (by unfold vp_in; decide) dL_read_7 (fun H2 locs2 hP hD hS => ?_)
    refine lv_goto (tgt := 14) hx hb dL_read_8 (by decide) ?_
    refine lv_iconst (v := (0 : Int32)) hx hb dL_read_14 (by decide) ?_
    have hP : va_P (dC, dI) vwCl ((wFm aF aN aT aL aO aH aP aX ++ (wSt cI aN u.1 ++ (wLo cI aL u.2.1 ++ (wOu aO aN aL ++ (wHi cS aH ah u.2.2.1 ++ (wZs cI ah u.2.2.2.1 ++ (wTx cI aX u.2.2.2.2))))))) ++ wOt cJ ao (vp_updL f 0 r.toInt64)) H2 := hP
    exact W.widen (k := 1) (n := 6) (Nat.le_of_ble_eq_true rfl) (Nat.le_of_ble_eq_true rfl) (W.iret (v := (0 : Int32)) hx hb hr (fun t ht hW => ⟨⟨(0 : Int32), (u, vp_updL f 0 r.toInt64), rfl, ⟨0, r, hw, Or.inl ⟨rfl, rfl, rfl⟩⟩, P_at ht hP⟩, hS.F ht⟩) hS.2.2 dL_read_15)
abbrev rm_L_take : Room := { frames := 7, cells := 1, slots := 6, locals := 113 }
abbrev q_L_take (dC : Nat → ClassId) (dI : Nat → Nat → Nat) (cI cZ cS cJ : ClassId) (aF aN aT aL aO aH : Nat → Nat) (ah : Nat → Nat → Nat) (aP aX : Nat → Nat) (ao : Nat) (S : Pic) (N : Pic) (res : Int32 × Int32 × Pic) (A : Nat → Prop) : Array Value → State → Outcome → State → Prop := va_Qi (fun (k : Int32) (u : (Pic) × (Nat → Int64)) => ∃ c r : Int32, (c, r, u.1) = res ∧ wrp [1] c r k (u.2 0)) (fun u t => va_P (dC, dI) vwCl ((wFm aF aN aT aL aO aH aP aX ++ (wSt cI aN S ++ (wSn cI cZ aP u.1))) ++ wOt cJ ao u.2) t.heap) A
set_option maxHeartbeats 4000000 in
set_option maxRecDepth 100000 in
theorem met_L_take (l : Launch) (hfl : l.stackTraces = false) (dC : Nat → ClassId) (dI : Nat → Nat → Nat) (cI cZ cS cJ : ClassId) (aF aN aT aL aO aH : Nat → Nat) (ah : Nat → Nat → Nat) (aP aX : Nat → Nat) (ao : Nat) (f : Nat → Int64) (S : Pic) (N : Pic) (base sz : Nat) (p1 : Int32) (res : Int32 × Int32 × Pic) (hR : f6_take S N p1 = res) (hks : ∀ c r, (∃ u, (c, r, u) = res) → c = 0 ∨ ∃ i : Nat, ([1] : List Int32)[i]? = some c) : Met l yL_take wsL_take rm_L_take (va_Pc [.ref (aF 0), .int p1, .ref ao] (pL (dC, dI) cI cZ cS cJ ((wFm aF aN aT aL aO aH aP aX ++ (wSt cI aN S ++ (wSn cI cZ aP N))) ++ wOt cJ ao f) base sz)) (q_L_take dC dI cI cZ cS cJ aF aN aT aL aO aH ah aP aX ao S N res (va_A ((wFm aF aN aT aL aO aH aP aX ++ (wSt cI aN S ++ (wSn cI cZ aP N))) ++ wOt cJ ao f) sz)) 1 6 (va_A ((wFm aF aN aT aL aO aH aP aX ++ (wSt cI aN S ++ (wSn cI cZ aP N))) ++ wOt cJ ao f) sz) := by
  refine met_ofWH (cc := cL_take) (maxL := 4) (ret := some .int) (hh := [(0, 9, 12, 21)]) (by decide) rfl ?_
  intro p e s m args below meth c s₁ B hml hv
  obtain ⟨rfl, ⟨hsz, hP, hK, hD0, hN, hbs, hXW⟩, hNC⟩ := hv
  have hx := B.exec
  have hb := B.bytes
  have hr := B.returns
  have hts := atoms_spec (ws := wsL_take) B.pre
  have hown : s.vm.findClass RL = some m.cls := findClass_of_methodNamed B.named
  have hlocks := B.notSynchronized
  have htab := vx_table (x := yL_take) B (hts _ List.mem_cons_self)
  subst hsz
  have hD := hD0.self (sz := s.heap.size)
  generalize hAe : va_A ((wFm aF aN aT aL aO aH aP aX ++ (wSt cI aN S ++ (wSn cI cZ aP N))) ++ wOt cJ ao f) s.heap.size = A at hD ⊢
  have hA : ∀ q : Nat, s.heap.size ≤ q → A q := fun q h => by rw [← hAe]; exact Or.inr h
  have hS : va_S A s.heap s.heap [] := va_S.rf
  have hP : va_P (dC, dI) vwCl ((wFm aF aN aT aL aO aH aP aX ++ (wSt cI aN S ++ (wSn cI cZ aP N))) ++ wOt cJ ao f) s.heap := hP
  have hK3 := hK.sub (tys' := tyS cI cZ cS) [0, 1, 2] rfl
  have hl := lv_entry ([.ref (aF 0), .int p1, .ref ao]) (n := 4) (Nat.le_of_ble_eq_true rfl)
  rw [lg_entry_eq]
  generalize (lg_sl ([.ref (aF 0), .int p1, .ref ao]) ++ List.replicate (4 - (lg_sl ([.ref (aF 0), .int p1, .ref ao])).length) Slot.unset).toArray = ls at hl ⊢
  have hl : lv_has ls 4 [(0, .ref (aF 0)), (1, .int p1), (2, .ref ao)] := hl
  refine lv_aload_n hx hb dL_take_0 rfl (lv_at hl 2 rfl) ?_
  refine lv_iconst (v := (0 : Int32)) hx hb dL_take_1 (by decide) ?_
  refine lv_aload_n hx hb dL_take_2 rfl (lv_at hl 0 rfl) ?_
  refine lv_iload_n hx hb dL_take_3 rfl (lv_at hl 1 rfl) ?_
  have hF := va_free (wc := wFm aF aN aT aL aO aH aP aX ++ (wSt cI aN S ++ (wSn cI cZ aP N))) hD hS hA [0, 1, 2, 3, 4, 5, 6, 7, 8, 9, 10, 11, 12, 13, 14] rfl
  subst hR
  refine vx_calli (vx_runV (As := [.int p1]) (rest := [.int (0 : Int32), .ref ao]) ⟨hx, hb, hml, hown, hts⟩ (met_X6_take l hfl dC dI cI cZ cS aF aN aT aL aO aH ah aP aX S N base s.heap.size p1) (cwV 1 hts gL_take_X6_take rfl rfl rfl (by decide +kernel) ⟨Nat.le_of_ble_eq_true rfl, Nat.le_of_ble_eq_true rfl⟩) (pXV (wc := wFm aF aN aT aL aO aH aP aX ++ (wSt cI aN S ++ (wSn cI cZ aP N))) (ci := 6) (q0 := 0) hK3 hP hD0 hN hbs hXW [0, 1, 2, 3, 4, 5, 6, 7, 8, 9, 10, 11, 12, 13, 14] rfl (by decide) rfl rfl) rfl rfl hl.1 rfl (lv_room (Nat.le_of_ble_eq_true rfl)) dL_take_4 ⟨Nat.le_of_ble_eq_true rfl, Nat.le_of_ble_eq_true rfl⟩) hS (fun q _ h => hF q h) hF (fun q _ h => hF q h) (fun E ce q9 u t H1 locs ht hvm hpx hB hz1 hk1 hS hce hcv hcl => ?_) (fun r u t H1 locs ht hvm hw hB hz1 hk1 hS => ?_)
  · obtain ⟨c, hE, hc0, hres, hB⟩ := hB
    rw [ht] at hB
    have hP := wrk2 (w2 := (wFm aF aN aT aL aO aH aP aX ++ (wSt cI aN S ++ (wSn cI cZ aP u))) ++ wOt cJ ao f) (wr := wOt cJ ao f) hP hD [0, 1, 2, 3, 4, 5, 6, 7, 8, 9, 10, 11, 12, 13, 14] [15] rfl rfl (by decide) hk1 hB [1, 2, 3, 4, 5, 6, 7, 8, 9, 10, 11, 12, 13, 14, 15, 0] rfl
    have hD := D_addr (w1 := (wFm aF aN aT aL aO aH aP aX ++ (wSt cI aN S ++ (wSn cI cZ aP u))) ++ wOt cJ ao f) hD rfl
    have hres2 := hres
    have hcs := hks c 0 ⟨u, hres⟩
    rcases hcs with hcs | ⟨i, hi⟩
    · exact absurd hcs hc0
    have hil : i < 1 := by
      rcases Nat.lt_or_ge i 1 with q | q
      · exact q
      · rw [List.getElem?_eq_none (by simpa using q)] at hi; cases hi
    have hik : i = 0 := by omega
    rcases hik with rfl
    · have hc : c = 1 := (Option.some.inj hi).symm
      have hE : E = "java/lang/IndexOutOfBoundsException" := hE.symm.trans (by rw [hc]; rfl)
      subst hE
      refine vx_catch (name := "java/lang/IndexOutOfBoundsException") hown [] ⟨0, 9, 12, 21⟩ [] (htab.trans rfl) (fun z hz => by cases hz) (by decide) (by decide) (hts (.classLink RL 21 "java/lang/IndexOutOfBoundsException") (by decide +kernel)) ((hXW.2.2.2.1 "java/lang/IndexOutOfBoundsException" (by decide)).use rfl) hce hcv hcl ?_
      refine lv_astore_n (lv' := [(3, .ref q9), (0, .ref (aF 0)), (1, .int p1), (2, .ref ao)]) hx hb dL_take_12 rfl hl (by decide) rfl (fun ls hl => ?_)
      refine lv_iconst (v := (1 : Int32)) hx hb dL_take_13 (by decide) ?_
      exact W.widen (k := 1) (n := 6) (Nat.le_of_ble_eq_true rfl) (Nat.le_of_ble_eq_true rfl) (W.iret (v := (1 : Int32)) hx hb hr (fun t ht hW => ⟨⟨(1 : Int32), (u, f), rfl, ⟨c, 0, hres, Or.inr ⟨0, hi, rfl⟩⟩, P_at ht hP⟩, hS.F ht⟩) hS.2.2 dL_take_14)
  · rw [ht] at hB
    have hP := wrk2 (w2 := (wFm aF aN aT aL aO aH aP aX ++ (wSt cI aN S ++ (wSn cI cZ aP u))) ++ wOt cJ ao f) (wr := wOt cJ ao f) hP hD [0, 1, 2, 3, 4, 5, 6, 7, 8, 9, 10, 11, 12, 13, 14] [15] rfl rfl (by decide) hk1 hB [1, 2, 3, 4, 5, 6, 7, 8, 9, 10, 11, 12, 13, 14, 15, 0] rfl
    have hD := D_addr (w1 := (wFm aF aN aT aL aO aH aP aX ++ (wSt cI aN S ++ (wSn cI cZ aP u))) ++ wOt cJ ao f) hD rfl
    refine lv_i2l (v := r.toInt64) hx hb dL_take_7 rfl ?_
    refine va_last hx hb hK hP hD hS 15 3 rfl rfl (by unfold vp_in; decide) dL_take_8 (fun H2 locs2 hP hD hS => ?_)
    refine lv_goto (tgt := 15) hx hb dL_take_9 (by decide) ?_
    refine lv_iconst (v := (0 : Int32)) hx hb dL_take_15 (by decide) ?_
    have hP : va_P (dC, dI) vwCl ((wFm aF aN aT aL aO aH aP aX ++ (wSt cI aN S ++ (wSn cI cZ aP u))) ++ wOt cJ ao (vp_updL f 0 r.toInt64)) H2 := hP
    exact W.widen (k := 1) (n := 6) (Nat.le_of_ble_eq_true rfl) (Nat.le_of_ble_eq_true rfl) (W.iret (v := (0 : Int32)) hx hb hr (fun t ht hW => ⟨⟨(0 : Int32), (u, vp_updL f 0 r.toInt64), rfl, ⟨0, r, hw, Or.inl ⟨rfl, rfl, rfl⟩⟩, P_at ht hP⟩, hS.F ht⟩) hS.2.2 dL_take_16)
abbrev rm_L_restore : Room := { frames := 7, cells := 1, slots := 6, locals := 166 }
abbrev q_L_restore (dC : Nat → ClassId) (dI : Nat → Nat → Nat) (cI cZ cS cJ : ClassId) (aF aN aT aL aO aH : Nat → Nat) (ah : Nat → Nat → Nat) (aP aX : Nat → Nat) (ao : Nat) (S : Pic) (R : Pic) (Y : Pic) (G : Pic) (Z : (Nat → Pic)) (N : Pic) (res : Int32 × Int32 × Pic × Pic × Pic × Pic × (Nat → Pic)) (A : Nat → Prop) : Array Value → State → Outcome → State → Prop := va_Qi (fun (k : Int32) (u : (Pic × Pic × Pic × Pic × (Nat → Pic)) × (Nat → Int64)) => ∃ c r : Int32, (c, r, u.1) = res ∧ wrp [1, 3] c r k (u.2 0)) (fun u t => va_P (dC, dI) vwCl ((wFm aF aN aT aL aO aH aP aX ++ (wSt cI aN u.1.1 ++ (wSt cI aT u.1.2.1 ++ (wLo cI aL u.1.2.2.1 ++ (wHi cS aH ah u.1.2.2.2.1 ++ (wZs cI ah u.1.2.2.2.2 ++ (wSn cI cZ aP N))))))) ++ wOt cJ ao u.2) t.heap) A
set_option maxHeartbeats 4000000 in
set_option maxRecDepth 100000 in
theorem met_L_restore (l : Launch) (hfl : l.stackTraces = false) (dC : Nat → ClassId) (dI : Nat → Nat → Nat) (cI cZ cS cJ : ClassId) (aF aN aT aL aO aH : Nat → Nat) (ah : Nat → Nat → Nat) (aP aX : Nat → Nat) (ao : Nat) (f : Nat → Int64) (S : Pic) (R : Pic) (Y : Pic) (G : Pic) (Z : (Nat → Pic)) (N : Pic) (base sz : Nat) (p1 : Int32) (res : Int32 × Int32 × Pic × Pic × Pic × Pic × (Nat → Pic)) (hR : f6_restore S R Y G Z N p1 = res) (hks : ∀ c r, (∃ u, (c, r, u) = res) → c = 0 ∨ ∃ i : Nat, ([1, 3] : List Int32)[i]? = some c) : Met l yL_restore wsL_restore rm_L_restore (va_Pc [.ref (aF 0), .int p1, .ref ao] (pL (dC, dI) cI cZ cS cJ ((wFm aF aN aT aL aO aH aP aX ++ (wSt cI aN S ++ (wSt cI aT R ++ (wLo cI aL Y ++ (wHi cS aH ah G ++ (wZs cI ah Z ++ (wSn cI cZ aP N))))))) ++ wOt cJ ao f) base sz)) (q_L_restore dC dI cI cZ cS cJ aF aN aT aL aO aH ah aP aX ao S R Y G Z N res (va_A ((wFm aF aN aT aL aO aH aP aX ++ (wSt cI aN S ++ (wSt cI aT R ++ (wLo cI aL Y ++ (wHi cS aH ah G ++ (wZs cI ah Z ++ (wSn cI cZ aP N))))))) ++ wOt cJ ao f) sz)) 1 6 (va_A ((wFm aF aN aT aL aO aH aP aX ++ (wSt cI aN S ++ (wSt cI aT R ++ (wLo cI aL Y ++ (wHi cS aH ah G ++ (wZs cI ah Z ++ (wSn cI cZ aP N))))))) ++ wOt cJ ao f) sz) := by
  refine met_ofWH (cc := cL_restore) (maxL := 4) (ret := some .int) (hh := [(0, 9, 12, 21), (0, 9, 15, 15)]) (by decide) rfl ?_
  intro p e s m args below meth c s₁ B hml hv
  obtain ⟨rfl, ⟨hsz, hP, hK, hD0, hN, hbs, hXW⟩, hNC⟩ := hv
  have hx := B.exec
  have hb := B.bytes
  have hr := B.returns
  have hts := atoms_spec (ws := wsL_restore) B.pre
  have hown : s.vm.findClass RL = some m.cls := findClass_of_methodNamed B.named
  have hlocks := B.notSynchronized
  have htab := vx_table (x := yL_restore) B (hts _ List.mem_cons_self)
  subst hsz
  have hD := hD0.self (sz := s.heap.size)
  generalize hAe : va_A ((wFm aF aN aT aL aO aH aP aX ++ (wSt cI aN S ++ (wSt cI aT R ++ (wLo cI aL Y ++ (wHi cS aH ah G ++ (wZs cI ah Z ++ (wSn cI cZ aP N))))))) ++ wOt cJ ao f) s.heap.size = A at hD ⊢
  have hA : ∀ q : Nat, s.heap.size ≤ q → A q := fun q h => by rw [← hAe]; exact Or.inr h
  have hS : va_S A s.heap s.heap [] := va_S.rf
  have hP : va_P (dC, dI) vwCl ((wFm aF aN aT aL aO aH aP aX ++ (wSt cI aN S ++ (wSt cI aT R ++ (wLo cI aL Y ++ (wHi cS aH ah G ++ (wZs cI ah Z ++ (wSn cI cZ aP N))))))) ++ wOt cJ ao f) s.heap := hP
  have hK3 := hK.sub (tys' := tyS cI cZ cS) [0, 1, 2] rfl
  have hl := lv_entry ([.ref (aF 0), .int p1, .ref ao]) (n := 4) (Nat.le_of_ble_eq_true rfl)
  rw [lg_entry_eq]
  generalize (lg_sl ([.ref (aF 0), .int p1, .ref ao]) ++ List.replicate (4 - (lg_sl ([.ref (aF 0), .int p1, .ref ao])).length) Slot.unset).toArray = ls at hl ⊢
  have hl : lv_has ls 4 [(0, .ref (aF 0)), (1, .int p1), (2, .ref ao)] := hl
  refine lv_aload_n hx hb dL_restore_0 rfl (lv_at hl 2 rfl) ?_
  refine lv_iconst (v := (0 : Int32)) hx hb dL_restore_1 (by decide) ?_
  refine lv_aload_n hx hb dL_restore_2 rfl (lv_at hl 0 rfl) ?_
  refine lv_iload_n hx hb dL_restore_3 rfl (lv_at hl 1 rfl) ?_
  have hF := va_free (wc := wFm aF aN aT aL aO aH aP aX ++ (wSt cI aN S ++ (wSt cI aT R ++ (wLo cI aL Y ++ (wHi cS aH ah G ++ (wZs cI ah Z ++ (wSn cI cZ aP N))))))) hD hS hA [0, 1, 2, 3, 4, 5, 6, 7, 8, 9, 10, 11, 12, 13, 14, 15, 16, 17, 18, 19, 20, 21, 22, 23, 24, 25, 26, 27, 28, 29, 30, 31, 32, 33, 34, 35, 36, 37, 38, 39, 40, 41, 42, 43, 44, 45, 46, 47, 48, 49, 50, 51, 52, 53, 54, 55, 56, 57, 58, 59, 60, 61, 62, 63, 64, 65, 66, 67, 68, 69, 70, 71, 72, 73, 74, 75, 76, 77, 78, 79, 80, 81, 82, 83, 84, 85, 86, 87, 88, 89, 90, 91, 92, 93, 94, 95, 96] rfl
  subst hR
  refine vx_calli (vx_runV (As := [.int p1]) (rest := [.int (0 : Int32), .ref ao]) ⟨hx, hb, hml, hown, hts⟩ (met_X6_restore l hfl dC dI cI cZ cS aF aN aT aL aO aH ah aP aX S R Y G Z N base s.heap.size p1) (cwV 1 hts gL_restore_X6_restore rfl rfl rfl (by decide +kernel) ⟨Nat.le_of_ble_eq_true rfl, Nat.le_of_ble_eq_true rfl⟩) (pXV (wc := wFm aF aN aT aL aO aH aP aX ++ (wSt cI aN S ++ (wSt cI aT R ++ (wLo cI aL Y ++ (wHi cS aH ah G ++ (wZs cI ah Z ++ (wSn cI cZ aP N))))))) (ci := 6) (q0 := 0) hK3 hP hD0 hN hbs hXW [0, 1, 2, 3, 4, 5, 6, 7, 8, 9, 10, 11, 12, 13, 14, 15, 16, 17, 18, 19, 20, 21, 22, 23, 24, 25, 26, 27, 28, 29, 30, 31, 32, 33, 34, 35, 36, 37, 38, 39, 40, 41, 42, 43, 44, 45, 46, 47, 48, 49, 50, 51, 52, 53, 54, 55, 56, 57, 58, 59, 60, 61, 62, 63, 64, 65, 66, 67, 68, 69, 70, 71, 72, 73, 74, 75, 76, 77, 78, 79, 80, 81, 82, 83, 84, 85, 86, 87, 88, 89, 90, 91, 92, 93, 94, 95, 96] rfl (by decide) rfl rfl) rfl rfl hl.1 rfl (lv_room (Nat.le_of_ble_eq_true rfl)) dL_restore_4 ⟨Nat.le_of_ble_eq_true rfl, Nat.le_of_ble_eq_true rfl⟩) hS (fun q _ h => hF q h) hF (fun q _ h => hF q h) (fun E ce q9 u t H1 locs ht hvm hpx hB hz1 hk1 hS hce hcv hcl => ?_) (fun r u t H1 locs ht hvm hw hB hz1 hk1 hS => ?_)
  · obtain ⟨c, hE, hc0, hres, hB⟩ := hB
    rw [ht] at hB
    have hP := wrk2 (w2 := (wFm aF aN aT aL aO aH aP aX ++ (wSt cI aN u.1 ++ (wSt cI aT u.2.1 ++ (wLo cI aL u.2.2.1 ++ (wHi cS aH ah u.2.2.2.1 ++ (wZs cI ah u.2.2.2.2 ++ (wSn cI cZ aP N))))))) ++ wOt cJ ao f) (wr := wOt cJ ao f) hP hD [0, 1, 2, 3, 4, 5, 6, 7, 8, 9, 10, 11, 12, 13, 14, 15, 16, 17, 18, 19, 20, 21, 22, 23, 24, 25, 26, 27, 28, 29, 30, 31, 32, 33, 34, 35, 36, 37, 38, 39, 40, 41, 42, 43, 44, 45, 46, 47, 48, 49, 50, 51, 52, 53, 54, 55, 56, 57, 58, 59, 60, 61, 62, 63, 64, 65, 66, 67, 68, 69, 70, 71, 72, 73, 74, 75, 76, 77, 78, 79, 80, 81, 82, 83, 84, 85, 86, 87, 88, 89, 90, 91, 92, 93, 94, 95, 96] [97] rfl rfl (by decide) hk1 hB [1, 2, 3, 4, 5, 6, 7, 8, 9, 10, 11, 12, 13, 14, 15, 16, 17, 18, 19, 20, 21, 22, 23, 24, 25, 26, 27, 28, 29, 30, 31, 32, 33, 34, 35, 36, 37, 38, 39, 40, 41, 42, 43, 44, 45, 46, 47, 48, 49, 50, 51, 52, 53, 54, 55, 56, 57, 58, 59, 60, 61, 62, 63, 64, 65, 66, 67, 68, 69, 70, 71, 72, 73, 74, 75, 76, 77, 78, 79, 80, 81, 82, 83, 84, 85, 86, 87, 88, 89, 90, 91, 92, 93, 94, 95, 96, 97, 0] rfl
    have hD := D_addr (w1 := (wFm aF aN aT aL aO aH aP aX ++ (wSt cI aN u.1 ++ (wSt cI aT u.2.1 ++ (wLo cI aL u.2.2.1 ++ (wHi cS aH ah u.2.2.2.1 ++ (wZs cI ah u.2.2.2.2 ++ (wSn cI cZ aP N))))))) ++ wOt cJ ao f) hD rfl
    have hres2 := hres
    have hcs := hks c 0 ⟨u, hres⟩
    rcases hcs with hcs | ⟨i, hi⟩
    · exact absurd hcs hc0
    have hil : i < 2 := by
      rcases Nat.lt_or_ge i 2 with q | q
      · exact q
      · rw [List.getElem?_eq_none (by simpa using q)] at hi; cases hi
    have hik : i = 0 ∨ i = 1 := by omega
    rcases hik with rfl | rfl
    · have hc : c = 1 := (Option.some.inj hi).symm
      have hE : E = "java/lang/IndexOutOfBoundsException" := hE.symm.trans (by rw [hc]; rfl)
      subst hE
      refine vx_catch (name := "java/lang/IndexOutOfBoundsException") hown [] ⟨0, 9, 12, 21⟩ [⟨0, 9, 15, 15⟩] (htab.trans rfl) (fun z hz => by cases hz) (by decide) (by decide) (hts (.classLink RL 21 "java/lang/IndexOutOfBoundsException") (by decide +kernel)) ((hXW.2.2.2.1 "java/lang/IndexOutOfBoundsException" (by decide)).use rfl) hce hcv hcl ?_
      refine lv_astore_n (lv' := [(3, .ref q9), (0, .ref (aF 0)), (1, .int p1), (2, .ref ao)]) hx hb dL_restore_12 rfl hl (by decide) rfl (fun ls hl => ?_)
      refine lv_iconst (v := (1 : Int32)) hx hb dL_restore_13 (by decide) ?_
      exact W.widen (k := 1) (n := 6) (Nat.le_of_ble_eq_true rfl) (Nat.le_of_ble_eq_true rfl) (W.iret (v := (1 : Int32)) hx hb hr (fun t ht hW => ⟨⟨(1 : Int32), (u, f), rfl, ⟨c, 0, hres, Or.inr ⟨0, hi, rfl⟩⟩, P_at ht hP⟩, hS.F ht⟩) hS.2.2 dL_restore_14)
    · have hc : c = 3 := (Option.some.inj hi).symm
      have hE : E = "java/lang/IllegalStateException" := hE.symm.trans (by rw [hc]; rfl)
      subst hE
      refine vx_catch (name := "java/lang/IllegalStateException") hown [⟨0, 9, 12, 21⟩] ⟨0, 9, 15, 15⟩ [] (htab.trans rfl) (List.forall_mem_cons.mpr ⟨Or.inr ⟨by decide, "java/lang/IndexOutOfBoundsException", (hts (.classLink RL 21 "java/lang/IndexOutOfBoundsException") (by decide +kernel)), hNC ("java/lang/IllegalStateException", "java/lang/IndexOutOfBoundsException") (by decide)⟩, (fun z hz => by cases hz)⟩) (by decide) (by decide) (hts (.classLink RL 15 "java/lang/IllegalStateException") (by decide +kernel)) ((hXW.2.2.2.1 "java/lang/IllegalStateException" (by decide)).use rfl) hce hcv hcl ?_
      refine lv_astore_n (lv' := [(3, .ref q9), (0, .ref (aF 0)), (1, .int p1), (2, .ref ao)]) hx hb dL_restore_15 rfl hl (by decide) rfl (fun ls hl => ?_)
      refine lv_iconst (v := (2 : Int32)) hx hb dL_restore_16 (by decide) ?_
      exact W.widen (k := 1) (n := 6) (Nat.le_of_ble_eq_true rfl) (Nat.le_of_ble_eq_true rfl) (W.iret (v := (2 : Int32)) hx hb hr (fun t ht hW => ⟨⟨(2 : Int32), (u, f), rfl, ⟨c, 0, hres, Or.inr ⟨1, hi, rfl⟩⟩, P_at ht hP⟩, hS.F ht⟩) hS.2.2 dL_restore_17)
  · rw [ht] at hB
    have hP := wrk2 (w2 := (wFm aF aN aT aL aO aH aP aX ++ (wSt cI aN u.1 ++ (wSt cI aT u.2.1 ++ (wLo cI aL u.2.2.1 ++ (wHi cS aH ah u.2.2.2.1 ++ (wZs cI ah u.2.2.2.2 ++ (wSn cI cZ aP N))))))) ++ wOt cJ ao f) (wr := wOt cJ ao f) hP hD [0, 1, 2, 3, 4, 5, 6, 7, 8, 9, 10, 11, 12, 13, 14, 15, 16, 17, 18, 19, 20, 21, 22, 23, 24, 25, 26, 27, 28, 29, 30, 31, 32, 33, 34, 35, 36, 37, 38, 39, 40, 41, 42, 43, 44, 45, 46, 47, 48, 49, 50, 51, 52, 53, 54, 55, 56, 57, 58, 59, 60, 61, 62, 63, 64, 65, 66, 67, 68, 69, 70, 71, 72, 73, 74, 75, 76, 77, 78, 79, 80, 81, 82, 83, 84, 85, 86, 87, 88, 89, 90, 91, 92, 93, 94, 95, 96] [97] rfl rfl (by decide) hk1 hB [1, 2, 3, 4, 5, 6, 7, 8, 9, 10, 11, 12, 13, 14, 15, 16, 17, 18, 19, 20, 21, 22, 23, 24, 25, 26, 27, 28, 29, 30, 31, 32, 33, 34, 35, 36, 37, 38, 39, 40, 41, 42, 43, 44, 45, 46, 47, 48, 49, 50, 51, 52, 53, 54, 55, 56, 57, 58, 59, 60, 61, 62, 63, 64, 65, 66, 67, 68, 69, 70, 71, 72, 73, 74, 75, 76, 77, 78, 79, 80, 81, 82, 83, 84, 85, 86, 87, 88, 89, 90, 91, 92, 93, 94, 95, 96, 97, 0] rfl
    have hD := D_addr (w1 := (wFm aF aN aT aL aO aH aP aX ++ (wSt cI aN u.1 ++ (wSt cI aT u.2.1 ++ (wLo cI aL u.2.2.1 ++ (wHi cS aH ah u.2.2.2.1 ++ (wZs cI ah u.2.2.2.2 ++ (wSn cI cZ aP N))))))) ++ wOt cJ ao f) hD rfl
    refine lv_i2l (v := r.toInt64) hx hb dL_restore_7 rfl ?_
    refine va_last hx hb hK hP hD hS 97 3 rfl rfl (by unfold vp_in; decide) dL_restore_8 (fun H2 locs2 hP hD hS => ?_)
    refine lv_goto (tgt := 18) hx hb dL_restore_9 (by decide) ?_
    refine lv_iconst (v := (0 : Int32)) hx hb dL_restore_18 (by decide) ?_
    have hP : va_P (dC, dI) vwCl ((wFm aF aN aT aL aO aH aP aX ++ (wSt cI aN u.1 ++ (wSt cI aT u.2.1 ++ (wLo cI aL u.2.2.1 ++ (wHi cS aH ah u.2.2.2.1 ++ (wZs cI ah u.2.2.2.2 ++ (wSn cI cZ aP N))))))) ++ wOt cJ ao (vp_updL f 0 r.toInt64)) H2 := hP
    exact W.widen (k := 1) (n := 6) (Nat.le_of_ble_eq_true rfl) (Nat.le_of_ble_eq_true rfl) (W.iret (v := (0 : Int32)) hx hb hr (fun t ht hW => ⟨⟨(0 : Int32), (u, vp_updL f 0 r.toInt64), rfl, ⟨0, r, hw, Or.inl ⟨rfl, rfl, rfl⟩⟩, P_at ht hP⟩, hS.F ht⟩) hS.2.2 dL_restore_19)
