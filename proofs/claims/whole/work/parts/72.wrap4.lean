abbrev rm_L_setting : Room := { frames := 7, cells := 1, slots := 6, locals := 113 }
abbrev q_L_setting (dC : Nat → ClassId) (dI : Nat → Nat → Nat) (cI cZ cS cJ : ClassId) (aF aN aT aL aO aH : Nat → Nat) (ah : Nat → Nat → Nat) (aP aX : Nat → Nat) (ao : Nat) (S : Pic) (res : Int32 × Int32) (A : Nat → Prop) : Array Value → State → Outcome → State → Prop := va_Qi (fun (k : Int32) (u : (Unit) × (Nat → Int64)) => ∃ c r : Int32, (c, r) = res ∧ wrp [1] c r k (u.2 0)) (fun u t => va_P (dC, dI) vwCl ((wFm aF aN aT aL aO aH aP aX ++ (wSt cI aN S)) ++ wOt cJ ao u.2) t.heap) A
set_option maxHeartbeats 4000000 in
set_option maxRecDepth 100000 in
theorem met_L_setting (l : Launch) (hfl : l.stackTraces = false) (dC : Nat → ClassId) (dI : Nat → Nat → Nat) (cI cZ cS cJ : ClassId) (aF aN aT aL aO aH : Nat → Nat) (ah : Nat → Nat → Nat) (aP aX : Nat → Nat) (ao : Nat) (f : Nat → Int64) (S : Pic) (base sz : Nat) (p1 : Int32) (res : Int32 × Int32) (hR : f6_setting S p1 = res) (hks : ∀ c r, (∃ u, u = () ∧ (c, r) = res) → c = 0 ∨ ∃ i : Nat, ([1] : List Int32)[i]? = some c) : Met l yL_setting wsL_setting rm_L_setting (va_Pc [.ref (aF 0), .int p1, .ref ao] (pL (dC, dI) cI cZ cS cJ ((wFm aF aN aT aL aO aH aP aX ++ (wSt cI aN S)) ++ wOt cJ ao f) base sz)) (q_L_setting dC dI cI cZ cS cJ aF aN aT aL aO aH ah aP aX ao S res (va_A ((wFm aF aN aT aL aO aH aP aX ++ (wSt cI aN S)) ++ wOt cJ ao f) sz)) 1 6 (va_A ((wFm aF aN aT aL aO aH aP aX ++ (wSt cI aN S)) ++ wOt cJ ao f) sz) := by
  refine met_ofWH (cc := cL_setting) (maxL := 4) (ret := some .int) (hh := [(0, 9, 12, 21)]) (by decide) rfl ?_
  intro p e s m args below meth c s₁ B hml hv
  obtain ⟨rfl, ⟨hsz, hP, hK, hD0, hN, hbs, hXW⟩, hNC⟩ := hv
  have hx := B.exec
  have hb := B.bytes
  have hr := B.returns
  have hts := atoms_spec (ws := wsL_setting) B.pre
  have hown : s.vm.findClass RL = some m.cls := findClass_of_methodNamed B.named
  have hlocks := B.notSynchronized
  have htab := vx_table (x := yL_setting) B (hts _ List.mem_cons_self)
  subst hsz
  have hD := hD0.self (sz := s.heap.size)
  generalize hAe : va_A ((wFm aF aN aT aL aO aH aP aX ++ (wSt cI aN S)) ++ wOt cJ ao f) s.heap.size = A at hD ⊢
  have hA : ∀ q : Nat, s.heap.size ≤ q → A q := fun q h => by rw [← hAe]; exact Or.inr h
  have hS : va_S A s.heap s.heap [] := va_S.rf
  have hP : va_P (dC, dI) vwCl ((wFm aF aN aT aL aO aH aP aX ++ (wSt cI aN S)) ++ wOt cJ ao f) s.heap := hP
  have hK3 := hK.sub (tys' := tyS cI cZ cS) [0, 1, 2] rfl
  have hl := lv_entry ([.ref (aF 0), .int p1, .ref ao]) (n := 4) (Nat.le_of_ble_eq_true rfl)
  rw [lg_entry_eq]
  generalize (lg_sl ([.ref (aF 0), .int p1, .ref ao]) ++ List.replicate (4 - (lg_sl ([.ref (aF 0), .int p1, .ref ao])).length) Slot.unset).toArray = ls at hl ⊢
  have hl : lv_has ls 4 [(0, .ref (aF 0)), (1, .int p1), (2, .ref ao)] := hl
  refine lv_aload_n hx hb dL_setting_0 rfl (lv_at hl 2 rfl) ?_
  refine lv_iconst (v := (0 : Int32)) hx hb dL_setting_1 (by decide) ?_
  refine lv_aload_n hx hb dL_setting_2 rfl (lv_at hl 0 rfl) ?_
  refine lv_iload_n hx hb dL_setting_3 rfl (lv_at hl 1 rfl) ?_
  subst hR
  refine vx_calli (vx_runV (As := [.int p1]) (rest := [.int (0 : Int32), .ref ao]) ⟨hx, hb, hml, hown, hts⟩ (met_X6_setting l hfl dC dI cI cZ cS aF aN aT aL aO aH ah aP aX S base s.heap.size p1) (cwV 1 hts gL_setting_X6_setting rfl rfl rfl (by decide +kernel) ⟨Nat.le_of_ble_eq_true rfl, Nat.le_of_ble_eq_true rfl⟩) (pXV (wc := wFm aF aN aT aL aO aH aP aX ++ (wSt cI aN S)) (ci := 6) (q0 := 0) hK3 hP hD0 hN hbs hXW [0, 1, 2, 3, 4, 5, 6, 7, 8, 9, 10, 11] rfl (by decide) rfl rfl) rfl rfl hl.1 rfl (lv_room (Nat.le_of_ble_eq_true rfl)) dL_setting_4 ⟨Nat.le_of_ble_eq_true rfl, Nat.le_of_ble_eq_true rfl⟩) hS (fun q _ h => (a0_in hS hA) q h) (a0_in hS hA) (fun q _ h => (a0_in hS hA) q h) (fun E ce q9 u t H1 locs ht hvm hpx hB hz1 hk1 hS hce hcv hcl => ?_) (fun r u t H1 locs ht hvm hw hB hz1 hk1 hS => ?_)
  · obtain ⟨c, hE, hc0, hres, -⟩ := hB
    have hP := rdk hP hk1
    have hres2 := hres
    have hcs := hks c 0 ⟨(), rfl, hres⟩
    rcases hcs with hcs | ⟨i, hi⟩
    · exact absurd hcs hc0
    have hil : i < 1 := by
      rcases Nat.lt_or_ge i 1 with q | q
      · exact q
      · rw [List.getElem?_eq_none (by simpa using q)] at hi; cases hi
    have hik : i = 0 := by omega
    rcases hik with rfl
    · have hc : c = 1 := (Option.some.inj hi).symm
      have hE : E = "java/lang/IndexOutOfBoundsException" := hE.symm.trans (by rw [hc]; rfl)
      subst hE
      refine vx_catch (name := "java/lang/IndexOutOfBoundsException") hown [] ⟨0, 9, 12, 21⟩ [] (htab.trans rfl) (fun z hz => by cases hz) (by decide) (by decide) (hts (.classLink RL 21 "java/lang/IndexOutOfBoundsException") (by decide +kernel)) ((hXW.2.2.2.1 "java/lang/IndexOutOfBoundsException" (by decide)).use rfl) hce hcv hcl ?_
      refine lv_astore_n (lv' := [(3, .ref q9), (0, .ref (aF 0)), (1, .int p1), (2, .ref ao)]) hx hb dL_setting_12 rfl hl (by decide) rfl (fun ls hl => ?_)
      refine lv_iconst (v := (1 : Int32)) hx hb dL_setting_13 (by decide) ?_
      exact W.widen (k := 1) (n := 6) (Nat.le_of_ble_eq_true rfl) (Nat.le_of_ble_eq_true rfl) (W.iret (v := (1 : Int32)) hx hb hr (fun t ht hW => ⟨⟨(1 : Int32), ((), f), rfl, ⟨c, 0, hres, Or.inr ⟨0, hi, rfl⟩⟩, P_at ht hP⟩, hS.F ht⟩) hS.2.2 dL_setting_14)
  · clear hB
    have hP := rdk hP hk1
    refine lv_i2l (v := r.toInt64) hx hb dL_setting_7 rfl ?_
    refine va_last hx hb hK hP hD hS 12 3 rfl rfl (by unfold vp_in; decide) dL_setting_8 (fun H2 locs2 hP hD hS => ?_)
    refine lv_goto (tgt := 15) hx hb dL_setting_9 (by decide) ?_
    refine lv_iconst (v := (0 : Int32)) hx hb dL_setting_15 (by decide) ?_
    have hP : va_P (dC, dI) vwCl ((wFm aF aN aT aL aO aH aP aX ++ (wSt cI aN S)) ++ wOt cJ ao (vp_updL f 0 r.toInt64)) H2 := hP
    exact W.widen (k := 1) (n := 6) (Nat.le_of_ble_eq_true rfl) (Nat.le_of_ble_eq_true rfl) (W.iret (v := (0 : Int32)) hx hb hr (fun t ht hW => ⟨⟨(0 : Int32), ((), vp_updL f 0 r.toInt64), rfl, ⟨0, r, hw, Or.inl ⟨rfl, rfl, rfl⟩⟩, P_at ht hP⟩, hS.F ht⟩) hS.2.2 dL_setting_16)
abbrev rm_L_whyNot : Room := { frames := 7, cells := 1, slots := 6, locals := 151 }
abbrev q_L_whyNot (dC : Nat → ClassId) (dI : Nat → Nat → Nat) (cI cZ cS cJ : ClassId) (aF aN aT aL aO aH : Nat → Nat) (ah : Nat → Nat → Nat) (aP aX : Nat → Nat) (ao : Nat) (S : Pic) (Y : Pic) (res : Int32 × Int32 × Pic × Pic) (A : Nat → Prop) : Array Value → State → Outcome → State → Prop := va_Qi (fun (k : Int32) (u : (Pic × Pic) × (Nat → Int64)) => ∃ c r : Int32, (c, r, u.1) = res ∧ wrp [1] c r k (u.2 0)) (fun u t => va_P (dC, dI) vwCl ((wFm aF aN aT aL aO aH aP aX ++ (wSt cI aN u.1.1 ++ (wLo cI aL u.1.2 ++ (wOu aO aN aL)))) ++ wOt cJ ao u.2) t.heap) A
set_option maxHeartbeats 4000000 in
set_option maxRecDepth 100000 in
theorem met_L_whyNot (l : Launch) (hfl : l.stackTraces = false) (dC : Nat → ClassId) (dI : Nat → Nat → Nat) (cI cZ cS cJ : ClassId) (aF aN aT aL aO aH : Nat → Nat) (ah : Nat → Nat → Nat) (aP aX : Nat → Nat) (ao : Nat) (f : Nat → Int64) (S : Pic) (Y : Pic) (base sz : Nat) (p1 : Int32) (p2 : Int32) (p3 : Int32) (res : Int32 × Int32 × Pic × Pic) (hR : f6_whyNot S Y p1 p2 p3 = res) (hks : ∀ c r, (∃ u, (c, r, u) = res) → c = 0 ∨ ∃ i : Nat, ([1] : List Int32)[i]? = some c) : Met l yL_whyNot wsL_whyNot rm_L_whyNot (va_Pc [.ref (aF 0), .int p1, .int p2, .int p3, .ref ao] (pL (dC, dI) cI cZ cS cJ ((wFm aF aN aT aL aO aH aP aX ++ (wSt cI aN S ++ (wLo cI aL Y ++ (wOu aO aN aL)))) ++ wOt cJ ao f) base sz)) (q_L_whyNot dC dI cI cZ cS cJ aF aN aT aL aO aH ah aP aX ao S Y res (va_A ((wFm aF aN aT aL aO aH aP aX ++ (wSt cI aN S ++ (wLo cI aL Y ++ (wOu aO aN aL)))) ++ wOt cJ ao f) sz)) 1 6 (va_A ((wFm aF aN aT aL aO aH aP aX ++ (wSt cI aN S ++ (wLo cI aL Y ++ (wOu aO aN aL)))) ++ wOt cJ ao f) sz) := by
  refine met_ofWH (cc := cL_whyNot) (maxL := 6) (ret := some .int) (hh := [(0, 12, 15, 21)]) (by decide) rfl ?_
  intro p e s m args below meth c s₁ B hml hv
  obtain ⟨rfl, ⟨hsz, hP, hK, hD0, hN, hbs, hXW⟩, hNC⟩ := hv
  have hx := B.exec
  have hb := B.bytes
  have hr := B.returns
  have hts := atoms_spec (ws := wsL_whyNot) B.pre
  have hown : s.vm.findClass RL = some m.cls := findClass_of_methodNamed B.named
  have hlocks := B.notSynchronized
  have htab := vx_table (x := yL_whyNot) B (hts _ List.mem_cons_self)
  subst hsz
  have hD := hD0.self (sz := s.heap.size)
  generalize hAe : va_A ((wFm aF aN aT aL aO aH aP aX ++ (wSt cI aN S ++ (wLo cI aL Y ++ (wOu aO aN aL)))) ++ wOt cJ ao f) s.heap.size = A at hD ⊢
  have hA : ∀ q : Nat, s.heap.size ≤ q → A q := fun q h => by rw [← hAe]; exact Or.inr h
  have hS : va_S A s.heap s.heap [] := va_S.rf
  have hP : va_P (dC, dI) vwCl ((wFm aF aN aT aL aO aH aP aX ++ (wSt cI aN S ++ (wLo cI aL Y ++ (wOu aO aN aL)))) ++ wOt cJ ao f) s.heap := hP
  have hK3 := hK.sub (tys' := tyS cI cZ cS) [0, 1, 2] rfl
  have hl := lv_entry ([.ref (aF 0), .int p1, .int p2, .int p3, .ref ao]) (n := 6) (Nat.le_of_ble_eq_true rfl)
  rw [lg_entry_eq]
  generalize (lg_sl ([.ref (aF 0), .int p1, .int p2, .int p3, .ref ao]) ++ List.replicate (6 - (lg_sl ([.ref (aF 0), .int p1, .int p2, .int p3, .ref ao])).length) Slot.unset).toArray = ls at hl ⊢
  have hl : lv_has ls 6 [(0, .ref (aF 0)), (1, .int p1), (2, .int p2), (3, .int p3), (4, .ref ao)] := hl
  refine lv_aload hx hb dL_whyNot_0 (lv_at hl 4 rfl) ?_
  refine lv_iconst (v := (0 : Int32)) hx hb dL_whyNot_2 (by decide) ?_
  refine lv_aload_n hx hb dL_whyNot_3 rfl (lv_at hl 0 rfl) ?_
  refine lv_iload_n hx hb dL_whyNot_4 rfl (lv_at hl 1 rfl) ?_
  refine lv_iload_n hx hb dL_whyNot_5 rfl (lv_at hl 2 rfl) ?_
  refine lv_iload_n hx hb dL_whyNot_6 rfl (lv_at hl 3 rfl) ?_
  have hF := va_free (wc := wFm aF aN aT aL aO aH aP aX ++ (wSt cI aN S ++ (wLo cI aL Y ++ (wOu aO aN aL)))) hD hS hA [0, 1, 2, 3, 4, 5, 6, 7, 8, 9, 10, 11, 12, 13, 14, 15] rfl
  subst hR
  refine vx_calli (vx_runV (As := [.int p1, .int p2, .int p3]) (rest := [.int (0 : Int32), .ref ao]) ⟨hx, hb, hml, hown, hts⟩ (met_X6_whyNot l hfl dC dI cI cZ cS aF aN aT aL aO aH ah aP aX S Y base s.heap.size p1 p2 p3) (cwV 3 hts gL_whyNot_X6_whyNot rfl rfl rfl (by decide +kernel) ⟨Nat.le_of_ble_eq_true rfl, Nat.le_of_ble_eq_true rfl⟩) (pXV (wc := wFm aF aN aT aL aO aH aP aX ++ (wSt cI aN S ++ (wLo cI aL Y ++ (wOu aO aN aL)))) (ci := 6) (q0 := 0) hK3 hP hD0 hN hbs hXW [0, 1, 2, 3, 4, 5, 6, 7, 8, 9, 10, 11, 12, 13, 14, 15] rfl (by decide) rfl rfl) rfl rfl hl.1 rfl (lv_room (Nat.le_of_ble_eq_true rfl)) dL_whyNot_7 ⟨Nat.le_of_ble_eq_true rfl, Nat.le_of_ble_eq_true rfl⟩) hS (fun q _ h => hF q h) hF (fun q _ h => hF q h) (fun E ce q9 u t H1 locs ht hvm hpx hB hz1 hk1 hS hce hcv hcl => ?_) (fun r u t H1 locs ht hvm hw hB hz1 hk1 hS => ?_)
  · obtain ⟨c, hE, hc0, hres, hB⟩ := hB
    rw [ht] at hB
    have hP := wrk2 (w2 := (wFm aF aN aT aL aO aH aP aX ++ (wSt cI aN u.1 ++ (wLo cI aL u.2 ++ (wOu aO aN aL)))) ++ wOt cJ ao f) (wr := wOt cJ ao f) hP hD [0, 1, 2, 3, 4, 5, 6, 7, 8, 9, 10, 11, 12, 13, 14, 15] [16] rfl rfl (by decide) hk1 hB [1, 2, 3, 4, 5, 6, 7, 8, 9, 10, 11, 12, 13, 14, 15, 16, 0] rfl
    have hD := D_addr (w1 := (wFm aF aN aT aL aO aH aP aX ++ (wSt cI aN u.1 ++ (wLo cI aL u.2 ++ (wOu aO aN aL)))) ++ wOt cJ ao f) hD rfl
    have hres2 := hres
    have hcs := hks c 0 ⟨u, hres⟩
    rcases hcs with hcs | ⟨i, hi⟩
    · exact absurd hcs hc0
    have hil : i < 1 := by
      rcases Nat.lt_or_ge i 1 with q | q
      · exact q
      · rw [List.getElem?_eq_none (by simpa using q)] at hi; cases hi
    have hik : i = 0 := by omega
    rcases hik with rfl
    · have hc : c = 1 := (Option.some.inj hi).symm
      have hE : E = "java/lang/IndexOutOfBoundsException" := hE.symm.trans (by rw [hc]; rfl)
      subst hE
      refine vx_catch (name := "java/lang/IndexOutOfBoundsException") hown [] ⟨0, 12, 15, 21⟩ [] (htab.trans rfl) (fun z hz => by cases hz) (by decide) (by decide) (hts (.classLink RL 21 "java/lang/IndexOutOfBoundsException") (by decide +kernel)) ((hXW.2.2.2.1 "java/lang/IndexOutOfBoundsException" (by decide)).use rfl) hce hcv hcl ?_
      refine lv_astore (lv' := [(5, .ref q9), (0, .ref (aF 0)), (1, .int p1), (2, .int p2), (3, .int p3), (4, .ref ao)]) hx hb dL_whyNot_15 hl (by decide) rfl (fun ls hl => ?_)
      refine lv_iconst (v := (1 : Int32)) hx hb dL_whyNot_17 (by decide) ?_
      exact W.widen (k := 1) (n := 6) (Nat.le_of_ble_eq_true rfl) (Nat.le_of_ble_eq_true rfl) (W.iret (v := (1 : Int32)) hx hb hr (fun t ht hW => ⟨⟨(1 : Int32), (u, f), rfl, ⟨c, 0, hres, Or.inr ⟨0, hi, rfl⟩⟩, P_at ht hP⟩, hS.F ht⟩) hS.2.2 dL_whyNot_18)
  · rw [ht] at hB
    have hP := wrk2 (w2 := (wFm aF aN aT aL aO aH aP aX ++ (wSt cI aN u.1 ++ (wLo cI aL u.2 ++ (wOu aO aN aL)))) ++ wOt cJ ao f) (wr := wOt cJ ao f) hP hD [0, 1, 2, 3, 4, 5, 6, 7, 8, 9, 10, 11, 12, 13, 14, 15] [16] rfl rfl (by decide) hk1 hB [1, 2, 3, 4, 5, 6, 7, 8, 9, 10, 11, 12, 13, 14, 15, 16, 0] rfl
    have hD := D_addr (w1 := (wFm aF aN aT aL aO aH aP aX ++ (wSt cI aN u.1 ++ (wLo cI aL u.2 ++ (wOu aO aN aL)))) ++ wOt cJ ao f) hD rfl
    refine lv_i2l (v := r.toInt64) hx hb dL_whyNot_10 rfl ?_
    refine va_last hx hb hK hP hD hS 16 3 rfl rfl (by unfold vp_in; decide) dL_whyNot_11 (fun H2 locs2 hP hD hS => ?_)
    refine lv_goto (tgt := 19) hx hb dL_whyNot_12 (by decide) ?_
    refine lv_iconst (v := (0 : Int32)) hx hb dL_whyNot_19 (by decide) ?_
    have hP : va_P (dC, dI) vwCl ((wFm aF aN aT aL aO aH aP aX ++ (wSt cI aN u.1 ++ (wLo cI aL u.2 ++ (wOu aO aN aL)))) ++ wOt cJ ao (vp_updL f 0 r.toInt64)) H2 := hP
    exact W.widen (k := 1) (n := 6) (Nat.le_of_ble_eq_true rfl) (Nat.le_of_ble_eq_true rfl) (W.iret (v := (0 : Int32)) hx hb hr (fun t ht hW => ⟨⟨(0 : Int32), (u, vp_updL f 0 r.toInt64), rfl, ⟨0, r, hw, Or.inl ⟨rfl, rfl, rfl⟩⟩, P_at ht hP⟩, hS.F ht⟩) hS.2.2 dL_whyNot_20)
abbrev rm_L_joyOn : Room := { frames := 7, cells := 1, slots := 6, locals := 114 }
abbrev q_L_joyOn (dC : Nat → ClassId) (dI : Nat → Nat → Nat) (cI cZ cS cJ : ClassId) (aF aN aT aL aO aH : Nat → Nat) (ah : Nat → Nat → Nat) (aP aX : Nat → Nat) (ao : Nat) (S : Pic) (Y : Pic) (res : Int32 × Int32) (A : Nat → Prop) : Array Value → State → Outcome → State → Prop := va_Qi (fun (k : Int32) (u : (Unit) × (Nat → Int64)) => ∃ c r : Int32, (c, r) = res ∧ wrp [1] c r k (u.2 0)) (fun u t => va_P (dC, dI) vwCl ((wFm aF aN aT aL aO aH aP aX ++ (wSt cI aN S ++ (wLo cI aL Y ++ (wOu aO aN aL)))) ++ wOt cJ ao u.2) t.heap) A
set_option maxHeartbeats 4000000 in
set_option maxRecDepth 100000 in
theorem met_L_joyOn (l : Launch) (hfl : l.stackTraces = false) (dC : Nat → ClassId) (dI : Nat → Nat → Nat) (cI cZ cS cJ : ClassId) (aF aN aT aL aO aH : Nat → Nat) (ah : Nat → Nat → Nat) (aP aX : Nat → Nat) (ao : Nat) (f : Nat → Int64) (S : Pic) (Y : Pic) (base sz : Nat) (p1 : Int32) (p2 : Int32) (res : Int32 × Int32) (hR : f6_joyOn S p1 p2 = res) (hks : ∀ c r, (∃ u, u = () ∧ (c, r) = res) → c = 0 ∨ ∃ i : Nat, ([1] : List Int32)[i]? = some c) : Met l yL_joyOn wsL_joyOn rm_L_joyOn (va_Pc [.ref (aF 0), .int p1, .int p2, .ref ao] (pL (dC, dI) cI cZ cS cJ ((wFm aF aN aT aL aO aH aP aX ++ (wSt cI aN S ++ (wLo cI aL Y ++ (wOu aO aN aL)))) ++ wOt cJ ao f) base sz)) (q_L_joyOn dC dI cI cZ cS cJ aF aN aT aL aO aH ah aP aX ao S Y res (va_A ((wFm aF aN aT aL aO aH aP aX ++ (wSt cI aN S ++ (wLo cI aL Y ++ (wOu aO aN aL)))) ++ wOt cJ ao f) sz)) 1 6 (va_A ((wFm aF aN aT aL aO aH aP aX ++ (wSt cI aN S ++ (wLo cI aL Y ++ (wOu aO aN aL)))) ++ wOt cJ ao f) sz) := by
  refine met_ofWH (cc := cL_joyOn) (maxL := 5) (ret := some .int) (hh := [(0, 10, 13, 21)]) (by decide) rfl ?_
  intro p e s m args below meth c s₁ B hml hv
  obtain ⟨rfl, ⟨hsz, hP, hK, hD0, hN, hbs, hXW⟩, hNC⟩ := hv
  have hx := B.exec
  have hb := B.bytes
  have hr := B.returns
  have hts := atoms_spec (ws := wsL_joyOn) B.pre
  have hown : s.vm.findClass RL = some m.cls := findClass_of_methodNamed B.named
  have hlocks := B.notSynchronized
  have htab := vx_table (x := yL_joyOn) B (hts _ List.mem_cons_self)
  subst hsz
  have hD := hD0.self (sz := s.heap.size)
  generalize hAe : va_A ((wFm aF aN aT aL aO aH aP aX ++ (wSt cI aN S ++ (wLo cI aL Y ++ (wOu aO aN aL)))) ++ wOt cJ ao f) s.heap.size = A at hD ⊢
  have hA : ∀ q : Nat, s.heap.size ≤ q → A q := fun q h => by rw [← hAe]; exact Or.inr h
  have hS : va_S A s.heap s.heap [] := va_S.rf
  have hP : va_P (dC, dI) vwCl ((wFm aF aN aT aL aO aH aP aX ++ (wSt cI aN S ++ (wLo cI aL Y ++ (wOu aO aN aL)))) ++ wOt cJ ao f) s.heap := hP
  have hK3 := hK.sub (tys' := tyS cI cZ cS) [0, 1, 2] rfl
  have hl := lv_entry ([.ref (aF 0), .int p1, .int p2, .ref ao]) (n := 5) (Nat.le_of_ble_eq_true rfl)
  rw [lg_entry_eq]
  generalize (lg_sl ([.ref (aF 0), .int p1, .int p2, .ref ao]) ++ List.replicate (5 - (lg_sl ([.ref (aF 0), .int p1, .int p2, .ref ao])).length) Slot.unset).toArray = ls at hl ⊢
  have hl : lv_has ls 5 [(0, .ref (aF 0)), (1, .int p1), (2, .int p2), (3, .ref ao)] := hl
  refine lv_aload_n hx hb dL_joyOn_0 rfl (lv_at hl 3 rfl) ?_
  refine lv_iconst (v := (0 : Int32)) hx hb dL_joyOn_1 (by decide) ?_
  refine lv_aload_n hx hb dL_joyOn_2 rfl (lv_at hl 0 rfl) ?_
  refine lv_iload_n hx hb dL_joyOn_3 rfl (lv_at hl 1 rfl) ?_
  refine lv_iload_n hx hb dL_joyOn_4 rfl (lv_at hl 2 rfl) ?_
  subst hR
  refine vx_calli (vx_runV (As := [.int p1, .int p2]) (rest := [.int (0 : Int32), .ref ao]) ⟨hx, hb, hml, hown, hts⟩ (met_X6_joyOn l hfl dC dI cI cZ cS aF aN aT aL aO aH ah aP aX S Y base s.heap.size p1 p2) (cwV 2 hts gL_joyOn_X6_joyOn rfl rfl rfl (by decide +kernel) ⟨Nat.le_of_ble_eq_true rfl, Nat.le_of_ble_eq_true rfl⟩) (pXV (wc := wFm aF aN aT aL aO aH aP aX ++ (wSt cI aN S ++ (wLo cI aL Y ++ (wOu aO aN aL)))) (ci := 6) (q0 := 0) hK3 hP hD0 hN hbs hXW [0, 1, 2, 3, 4, 5, 6, 7, 8, 9, 10, 11, 12, 13, 14, 15] rfl (by decide) rfl rfl) rfl rfl hl.1 rfl (lv_room (Nat.le_of_ble_eq_true rfl)) dL_joyOn_5 ⟨Nat.le_of_ble_eq_true rfl, Nat.le_of_ble_eq_true rfl⟩) hS (fun q _ h => (a0_in hS hA) q h) (a0_in hS hA) (fun q _ h => (a0_in hS hA) q h) (fun E ce q9 u t H1 locs ht hvm hpx hB hz1 hk1 hS hce hcv hcl => ?_) (fun r u t H1 locs ht hvm hw hB hz1 hk1 hS => ?_)
  · obtain ⟨c, hE, hc0, hres, -⟩ := hB
    have hP := rdk hP hk1
    have hres2 := hres
    have hcs := hks c 0 ⟨(), rfl, hres⟩
    rcases hcs with hcs | ⟨i, hi⟩
    · exact absurd hcs hc0
    have hil : i < 1 := by
      rcases Nat.lt_or_ge i 1 with q | q
      · exact q
      · rw [List.getElem?_eq_none (by simpa using q)] at hi; cases hi
    have hik : i = 0 := by omega
    rcases hik with rfl
    · have hc : c = 1 := (Option.some.inj hi).symm
      have hE : E = "java/lang/IndexOutOfBoundsException" := hE.symm.trans (by rw [hc]; rfl)
      subst hE
      refine vx_catch (name := "java/lang/IndexOutOfBoundsException") hown [] ⟨0, 10, 13, 21⟩ [] (htab.trans rfl) (fun z hz => by cases hz) (by decide) (by decide) (hts (.classLink RL 21 "java/lang/IndexOutOfBoundsException") (by decide +kernel)) ((hXW.2.2.2.1 "java/lang/IndexOutOfBoundsException" (by decide)).use rfl) hce hcv hcl ?_
      refine lv_astore (lv' := [(4, .ref q9), (0, .ref (aF 0)), (1, .int p1), (2, .int p2), (3, .ref ao)]) hx hb dL_joyOn_13 hl (by decide) rfl (fun ls hl => ?_)
      refine lv_iconst (v := (1 : Int32)) hx hb dL_joyOn_15 (by decide) ?_
      exact W.widen (k := 1) (n := 6) (Nat.le_of_ble_eq_true rfl) (Nat.le_of_ble_eq_true rfl) (W.iret (v := (1 : Int32)) hx hb hr (fun t ht hW => ⟨⟨(1 : Int32), ((), f), rfl, ⟨c, 0, hres, Or.inr ⟨0, hi, rfl⟩⟩, P_at ht hP⟩, hS.F ht⟩) hS.2.2 dL_joyOn_16)
  · clear hB
    have hP := rdk hP hk1
    refine lv_i2l (v := r.toInt64) hx hb dL_joyOn_8 rfl ?_
    refine va_last hx hb hK hP hD hS 16 3 rfl rfl (by unfold vp_in; decide) dL_joyOn_9 (fun H2 locs2 hP hD hS => ?_)
    refine lv_goto (tgt := 17) hx hb dL_joyOn_10 (by decide) ?_
    refine lv_iconst (v := (0 : Int32)) hx hb dL_joyOn_17 (by decide) ?_
    have hP : va_P (dC, dI) vwCl ((wFm aF aN aT aL aO aH aP aX ++ (wSt cI aN S ++ (wLo cI aL Y ++ (wOu aO aN aL)))) ++ wOt cJ ao (vp_updL f 0 r.toInt64)) H2 := hP
    exact W.widen (k := 1) (n := 6) (Nat.le_of_ble_eq_true rfl) (Nat.le_of_ble_eq_true rfl) (W.iret (v := (0 : Int32)) hx hb hr (fun t ht hW => ⟨⟨(0 : Int32), ((), vp_updL f 0 r.toInt64), rfl, ⟨0, r, hw, Or.inl ⟨rfl, rfl, rfl⟩⟩, P_at ht hP⟩, hS.F ht⟩) hS.2.2 dL_joyOn_18)
abbrev rm_L_best : Room := { frames := 7, cells := 1, slots := 6, locals := 174 }
abbrev q_L_best (dC : Nat → ClassId) (dI : Nat → Nat → Nat) (cI cZ cS cJ : ClassId) (aF aN aT aL aO aH : Nat → Nat) (ah : Nat → Nat → Nat) (aP aX : Nat → Nat) (ao : Nat) (S : Pic) (Y : Pic) (res : Int32 × Int32 × Pic × Pic) (A : Nat → Prop) : Array Value → State → Outcome → State → Prop := va_Qi (fun (k : Int32) (u : (Pic × Pic) × (Nat → Int64)) => ∃ c r : Int32, (c, r, u.1) = res ∧ wrp [1] c r k (u.2 0)) (fun u t => va_P (dC, dI) vwCl ((wFm aF aN aT aL aO aH aP aX ++ (wSt cI aN u.1.1 ++ (wLo cI aL u.1.2 ++ (wOu aO aN aL)))) ++ wOt cJ ao u.2) t.heap) A
set_option maxHeartbeats 4000000 in
set_option maxRecDepth 100000 in
theorem met_L_best (l : Launch) (hfl : l.stackTraces = false) (dC : Nat → ClassId) (dI : Nat → Nat → Nat) (cI cZ cS cJ : ClassId) (aF aN aT aL aO aH : Nat → Nat) (ah : Nat → Nat → Nat) (aP aX : Nat → Nat) (ao : Nat) (f : Nat → Int64) (S : Pic) (Y : Pic) (base sz : Nat) (p1 : Int32) (p2 : Int32) (res : Int32 × Int32 × Pic × Pic) (hR : f6_best S Y p1 p2 = some res) (hks : ∀ c r, (∃ u, (c, r, u) = res) → c = 0 ∨ ∃ i : Nat, ([1] : List Int32)[i]? = some c) : Met l yL_best wsL_best rm_L_best (va_Pc [.ref (aF 0), .int p1, .int p2, .ref ao] (pL (dC, dI) cI cZ cS cJ ((wFm aF aN aT aL aO aH aP aX ++ (wSt cI aN S ++ (wLo cI aL Y ++ (wOu aO aN aL)))) ++ wOt cJ ao f) base sz)) (q_L_best dC dI cI cZ cS cJ aF aN aT aL aO aH ah aP aX ao S Y res (va_A ((wFm aF aN aT aL aO aH aP aX ++ (wSt cI aN S ++ (wLo cI aL Y ++ (wOu aO aN aL)))) ++ wOt cJ ao f) sz)) 1 6 (va_A ((wFm aF aN aT aL aO aH aP aX ++ (wSt cI aN S ++ (wLo cI aL Y ++ (wOu aO aN aL)))) ++ wOt cJ ao f) sz) := by
  refine met_ofWH (cc := cL_best) (maxL := 5) (ret := some .int) (hh := [(0, 10, 13, 21)]) (by decide) rfl ?_
  intro p e s m args below meth c s₁ B hml hv
  obtain ⟨rfl, ⟨hsz, hP, hK, hD0, hN, hbs, hXW⟩, hNC⟩ := hv
  have hx := B.exec
  have hb := B.bytes
  have hr := B.returns
  have hts := atoms_spec (ws := wsL_best) B.pre
  have hown : s.vm.findClass RL = some m.cls := findClass_of_methodNamed B.named
  have hlocks := B.notSynchronized
  have htab := vx_table (x := yL_best) B (hts _ List.mem_cons_self)
  subst hsz
  have hD := hD0.self (sz := s.heap.size)
  generalize hAe : va_A ((wFm aF aN aT aL aO aH aP aX ++ (wSt cI aN S ++ (wLo cI aL Y ++ (wOu aO aN aL)))) ++ wOt cJ ao f) s.heap.size = A at hD ⊢
  have hA : ∀ q : Nat, s.heap.size ≤ q → A q := fun q h => by rw [← hAe]; exact Or.inr h
  have hS : va_S A s.heap s.heap [] := va_S.rf
  have hP : va_P (dC, dI) vwCl ((wFm aF aN aT aL aO aH aP aX ++ (wSt cI aN S ++ (wLo cI aL Y ++ (wOu aO aN aL)))) ++ wOt cJ ao f) s.heap := hP
  have hK3 := hK.sub (tys' := tyS cI cZ cS) [0, 1, 2] rfl
  have hl := lv_entry ([.ref (aF 0), .int p1, .int p2, .ref ao]) (n := 5) (Nat.le_of_ble_eq_true rfl)
  rw [lg_entry_eq]
  generalize (lg_sl ([.ref (aF 0), .int p1, .int p2, .ref ao]) ++ List.replicate (5 - (lg_sl ([.ref (aF 0), .int p1, .int p2, .ref ao])).length) Slot.unset).toArray = ls at hl ⊢
  have hl : lv_has ls 5 [(0, .ref (aF 0)), (1, .int p1), (2, .int p2), (3, .ref ao)] := hl
  refine lv_aload_n hx hb dL_best_0 rfl (lv_at hl 3 rfl) ?_
  refine lv_iconst (v := (0 : Int32)) hx hb dL_best_1 (by decide) ?_
  refine lv_aload_n hx hb dL_best_2 rfl (lv_at hl 0 rfl) ?_
  refine lv_iload_n hx hb dL_best_3 rfl (lv_at hl 1 rfl) ?_
  refine lv_iload_n hx hb dL_best_4 rfl (lv_at hl 2 rfl) ?_
  have hF := va_free (wc := wFm aF aN aT aL aO aH aP aX ++ (wSt cI aN S ++ (wLo cI aL Y ++ (wOu aO aN aL)))) hD hS hA [0, 1, 2, 3, 4, 5, 6, 7, 8, 9, 10, 11, 12, 13, 14, 15] rfl
  refine vx_calli (vx_runV (As := [.int p1, .int p2]) (rest := [.int (0 : Int32), .ref ao]) ⟨hx, hb, hml, hown, hts⟩ (met_X6_best l hfl dC dI cI cZ cS aF aN aT aL aO aH ah aP aX S Y base s.heap.size p1 p2 res hR) (cwV 2 hts gL_best_X6_best rfl rfl rfl (by decide +kernel) ⟨Nat.le_of_ble_eq_true rfl, Nat.le_of_ble_eq_true rfl⟩) (pXV (wc := wFm aF aN aT aL aO aH aP aX ++ (wSt cI aN S ++ (wLo cI aL Y ++ (wOu aO aN aL)))) (ci := 6) (q0 := 0) hK3 hP hD0 hN hbs hXW [0, 1, 2, 3, 4, 5, 6, 7, 8, 9, 10, 11, 12, 13, 14, 15] rfl (by decide) rfl rfl) rfl rfl hl.1 rfl (lv_room (Nat.le_of_ble_eq_true rfl)) dL_best_5 ⟨Nat.le_of_ble_eq_true rfl, Nat.le_of_ble_eq_true rfl⟩) hS (fun q _ h => hF q h) hF (fun q _ h => hF q h) (fun E ce q9 u t H1 locs ht hvm hpx hB hz1 hk1 hS hce hcv hcl => ?_) (fun r u t H1 locs ht hvm hw hB hz1 hk1 hS => ?_)
  · obtain ⟨c, hE, hc0, hres, hB⟩ := hB
    rw [ht] at hB
    have hP := wrk2 (w2 := (wFm aF aN aT aL aO aH aP aX ++ (wSt cI aN u.1 ++ (wLo cI aL u.2 ++ (wOu aO aN aL)))) ++ wOt cJ ao f) (wr := wOt cJ ao f) hP hD [0, 1, 2, 3, 4, 5, 6, 7, 8, 9, 10, 11, 12, 13, 14, 15] [16] rfl rfl (by decide) hk1 hB [1, 2, 3, 4, 5, 6, 7, 8, 9, 10, 11, 12, 13, 14, 15, 16, 0] rfl
    have hD := D_addr (w1 := (wFm aF aN aT aL aO aH aP aX ++ (wSt cI aN u.1 ++ (wLo cI aL u.2 ++ (wOu aO aN aL)))) ++ wOt cJ ao f) hD rfl
    have hres2 := hres
    have hcs := hks c 0 ⟨u, hres⟩
    rcases hcs with hcs | ⟨i, hi⟩
    · exact absurd hcs hc0
    have hil : i < 1 := by
      rcases Nat.lt_or_ge i 1 with q | q
      · exact q
      · rw [List.getElem?_eq_none (by simpa using q)] at hi; cases hi
    have hik : i = 0 := by omega
    rcases hik with rfl
    · have hc : c = 1 := (Option.some.inj hi).symm
      have hE : E = "java/lang/IndexOutOfBoundsException" := hE.symm.trans (by rw [hc]; rfl)
      subst hE
      refine vx_catch (name := "java/lang/IndexOutOfBoundsException") hown [] ⟨0, 10, 13, 21⟩ [] (htab.trans rfl) (fun z hz => by cases hz) (by decide) (by decide) (hts (.classLink RL 21 "java/lang/IndexOutOfBoundsException") (by decide +kernel)) ((hXW.2.2.2.1 "java/lang/IndexOutOfBoundsException" (by decide)).use rfl) hce hcv hcl ?_
      refine lv_astore (lv' := [(4, .ref q9), (0, .ref (aF 0)), (1, .int p1), (2, .int p2), (3, .ref ao)]) hx hb dL_best_13 hl (by decide) rfl (fun ls hl => ?_)
      refine lv_iconst (v := (1 : Int32)) hx hb dL_best_15 (by decide) ?_
      exact W.widen (k := 1) (n := 6) (Nat.le_of_ble_eq_true rfl) (Nat.le_of_ble_eq_true rfl) (W.iret (v := (1 : Int32)) hx hb hr (fun t ht hW => ⟨⟨(1 : Int32), (u, f), rfl, ⟨c, 0, hres, Or.inr ⟨0, hi, rfl⟩⟩, P_at ht hP⟩, hS.F ht⟩) hS.2.2 dL_best_16)
  · rw [ht] at hB
    have hP := wrk2 (w2 := (wFm aF aN aT aL aO aH aP aX ++ (wSt cI aN u.1 ++ (wLo cI aL u.2 ++ (wOu aO aN aL)))) ++ wOt cJ ao f) (wr := wOt cJ ao f) hP hD [0, 1, 2, 3, 4, 5, 6, 7, 8, 9, 10, 11, 12, 13, 14, 15] [16] rfl rfl (by decide) hk1 hB [1, 2, 3, 4, 5, 6, 7, 8, 9, 10, 11, 12, 13, 14, 15, 16, 0] rfl
    have hD := D_addr (w1 := (wFm aF aN aT aL aO aH aP aX ++ (wSt cI aN u.1 ++ (wLo cI aL u.2 ++ (wOu aO aN aL)))) ++ wOt cJ ao f) hD rfl
    refine lv_i2l (v := r.toInt64) hx hb dL_best_8 rfl ?_
    refine va_last hx hb hK hP hD hS 16 3 rfl rfl (by unfold vp_in; decide) dL_best_9 (fun H2 locs2 hP hD hS => ?_)
    refine lv_goto (tgt := 17) hx hb dL_best_10 (by decide) ?_
    refine lv_iconst (v := (0 : Int32)) hx hb dL_best_17 (by decide) ?_
    have hP : va_P (dC, dI) vwCl ((wFm aF aN aT aL aO aH aP aX ++ (wSt cI aN u.1 ++ (wLo cI aL u.2 ++ (wOu aO aN aL)))) ++ wOt cJ ao (vp_updL f 0 r.toInt64)) H2 := hP
    exact W.widen (k := 1) (n := 6) (Nat.le_of_ble_eq_true rfl) (Nat.le_of_ble_eq_true rfl) (W.iret (v := (0 : Int32)) hx hb hr (fun t ht hW => ⟨⟨(0 : Int32), (u, vp_updL f 0 r.toInt64), rfl, ⟨0, r, hw, Or.inl ⟨rfl, rfl, rfl⟩⟩, P_at ht hP⟩, hS.F ht⟩) hS.2.2 dL_best_18)
abbrev rm_L_gain : Room := { frames := 7, cells := 1, slots := 6, locals := 150 }
abbrev q_L_gain (dC : Nat → ClassId) (dI : Nat → Nat → Nat) (cI cZ cS cJ : ClassId) (aF aN aT aL aO aH : Nat → Nat) (ah : Nat → Nat → Nat) (aP aX : Nat → Nat) (ao : Nat) (S : Pic) (Y : Pic) (res : Int32 × Int32 × Pic × Pic) (A : Nat → Prop) : Array Value → State → Outcome → State → Prop := va_Qi (fun (k : Int32) (u : (Pic × Pic) × (Nat → Int64)) => ∃ c r : Int32, (c, r, u.1) = res ∧ wrp [1] c r k (u.2 0)) (fun u t => va_P (dC, dI) vwCl ((wFm aF aN aT aL aO aH aP aX ++ (wSt cI aN u.1.1 ++ (wLo cI aL u.1.2 ++ (wOu aO aN aL)))) ++ wOt cJ ao u.2) t.heap) A
set_option maxHeartbeats 4000000 in
set_option maxRecDepth 100000 in
theorem met_L_gain (l : Launch) (hfl : l.stackTraces = false) (dC : Nat → ClassId) (dI : Nat → Nat → Nat) (cI cZ cS cJ : ClassId) (aF aN aT aL aO aH : Nat → Nat) (ah : Nat → Nat → Nat) (aP aX : Nat → Nat) (ao : Nat) (f : Nat → Int64) (S : Pic) (Y : Pic) (base sz : Nat) (p1 : Int32) (p2 : Int32) (res : Int32 × Int32 × Pic × Pic) (hR : f6_gain S Y p1 p2 = res) (hks : ∀ c r, (∃ u, (c, r, u) = res) → c = 0 ∨ ∃ i : Nat, ([1] : List Int32)[i]? = some c) : Met l yL_gain wsL_gain rm_L_gain (va_Pc [.ref (aF 0), .int p1, .int p2, .ref ao] (pL (dC, dI) cI cZ cS cJ ((wFm aF aN aT aL aO aH aP aX ++ (wSt cI aN S ++ (wLo cI aL Y ++ (wOu aO aN aL)))) ++ wOt cJ ao f) base sz)) (q_L_gain dC dI cI cZ cS cJ aF aN aT aL aO aH ah aP aX ao S Y res (va_A ((wFm aF aN aT aL aO aH aP aX ++ (wSt cI aN S ++ (wLo cI aL Y ++ (wOu aO aN aL)))) ++ wOt cJ ao f) sz)) 1 6 (va_A ((wFm aF aN aT aL aO aH aP aX ++ (wSt cI aN S ++ (wLo cI aL Y ++ (wOu aO aN aL)))) ++ wOt cJ ao f) sz) := by
  refine met_ofWH (cc := cL_gain) (maxL := 5) (ret := some .int) (hh := [(0, 10, 13, 21)]) (by decide) rfl ?_
  intro p e s m args below meth c s₁ B hml hv
  obtain ⟨rfl, ⟨hsz, hP, hK, hD0, hN, hbs, hXW⟩, hNC⟩ := hv
  have hx := B.exec
  have hb := B.bytes
  have hr := B.returns
  have hts := atoms_spec (ws := wsL_gain) B.pre
  have hown : s.vm.findClass RL = some m.cls := findClass_of_methodNamed B.named
  have hlocks := B.notSynchronized
  have htab := vx_table (x := yL_gain) B (hts _ List.mem_cons_self)
  subst hsz
  have hD := hD0.self (sz := s.heap.size)
  generalize hAe : va_A ((wFm aF aN aT aL aO aH aP aX ++ (wSt cI aN S ++ (wLo cI aL Y ++ (wOu aO aN aL)))) ++ wOt cJ ao f) s.heap.size = A at hD ⊢
  have hA : ∀ q : Nat, s.heap.size ≤ q → A q := fun q h => by rw [← hAe]; exact Or.inr h
  have hS : va_S A s.heap s.heap [] := va_S.rf
  have hP : va_P (dC, dI) vwCl ((wFm aF aN aT aL aO aH aP aX ++ (wSt cI aN S ++ (wLo cI aL Y ++ (wOu aO aN aL)))) ++ wOt cJ ao f) s.heap := hP
  have hK3 := hK.sub (tys' := tyS cI cZ cS) [0, 1, 2] rfl
  have hl := lv_entry ([.ref (aF 0), .int p1, .int p2, .ref ao]) (n := 5) (Nat.le_of_ble_eq_true rfl)
  rw [lg_entry_eq]
  generalize (lg_sl ([.ref (aF 0), .int p1, .int p2, .ref ao]) ++ List.replicate (5 - (lg_sl ([.ref (aF 0), .int p1, .int p2, .ref ao])).length) Slot.unset).toArray = ls at hl ⊢
  have hl : lv_has ls 5 [(0, .ref (aF 0)), (1, .int p1), (2, .int p2), (3, .ref ao)] := hl
  refine lv_aload_n hx hb dL_gain_0 rfl (lv_at hl 3 rfl) ?_
  refine lv_iconst (v := (0 : Int32)) hx hb dL_gain_1 (by decide) ?_
  refine lv_aload_n hx hb dL_gain_2 rfl (lv_at hl 0 rfl) ?_
  refine lv_iload_n hx hb dL_gain_3 rfl (lv_at hl 1 rfl) ?_
  refine lv_iload_n hx hb dL_gain_4 rfl (lv_at hl 2 rfl) ?_
  have hF := va_free (wc := wFm aF aN aT aL aO aH aP aX ++ (wSt cI aN S ++ (wLo cI aL Y ++ (wOu aO aN aL)))) hD hS hA [0, 1, 2, 3, 4, 5, 6, 7, 8, 9, 10, 11, 12, 13, 14, 15] rfl
  subst hR
  refine vx_calli (vx_runV (As := [.int p1, .int p2]) (rest := [.int (0 : Int32), .ref ao]) ⟨hx, hb, hml, hown, hts⟩ (met_X6_gain l hfl dC dI cI cZ cS aF aN aT aL aO aH ah aP aX S Y base s.heap.size p1 p2) (cwV 2 hts gL_gain_X6_gain rfl rfl rfl (by decide +kernel) ⟨Nat.le_of_ble_eq_true rfl, Nat.le_of_ble_eq_true rfl⟩) (pXV (wc := wFm aF aN aT aL aO aH aP aX ++ (wSt cI aN S ++ (wLo cI aL Y ++ (wOu aO aN aL)))) (ci := 6) (q0 := 0) hK3 hP hD0 hN hbs hXW [0, 1, 2, 3, 4, 5, 6, 7, 8, 9, 10, 11, 12, 13, 14, 15] rfl (by decide) rfl rfl) rfl rfl hl.1 rfl (lv_room (Nat.le_of_ble_eq_true rfl)) dL_gain_5 ⟨Nat.le_of_ble_eq_true rfl, Nat.le_of_ble_eq_true rfl⟩) hS (fun q _ h => hF q h) hF (fun q _ h => hF q h) (fun E ce q9 u t H1 locs ht hvm hpx hB hz1 hk1 hS hce hcv hcl => ?_) (fun r u t H1 locs ht hvm hw hB hz1 hk1 hS => ?_)
  · obtain ⟨c, hE, hc0, hres, hB⟩ := hB
    rw [ht] at hB
    have hP := wrk2 (w2 := (wFm aF aN aT aL aO aH aP aX ++ (wSt cI aN u.1 ++ (wLo cI aL u.2 ++ (wOu aO aN aL)))) ++ wOt cJ ao f) (wr := wOt cJ ao f) hP hD [0, 1, 2, 3, 4, 5, 6, 7, 8, 9, 10, 11, 12, 13, 14, 15] [16] rfl rfl (by decide) hk1 hB [1, 2, 3, 4, 5, 6, 7, 8, 9, 10, 11, 12, 13, 14, 15, 16, 0] rfl
    have hD := D_addr (w1 := (wFm aF aN aT aL aO aH aP aX ++ (wSt cI aN u.1 ++ (wLo cI aL u.2 ++ (wOu aO aN aL)))) ++ wOt cJ ao f) hD rfl
    have hres2 := hres
    have hcs := hks c 0 ⟨u, hres⟩
    rcases hcs with hcs | ⟨i, hi⟩
    · exact absurd hcs hc0
    have hil : i < 1 := by
      rcases Nat.lt_or_ge i 1 with q | q
      · exact q
      · rw [List.getElem?_eq_none (by simpa using q)] at hi; cases hi
    have hik : i = 0 := by omega
    rcases hik with rfl
    · have hc : c = 1 := (Option.some.inj hi).symm
      have hE : E = "java/lang/IndexOutOfBoundsException" := hE.symm.trans (by rw [hc]; rfl)
      subst hE
      refine vx_catch (name := "java/lang/IndexOutOfBoundsException") hown [] ⟨0, 10, 13, 21⟩ [] (htab.trans rfl) (fun z hz => by cases hz) (by decide) (by decide) (hts (.classLink RL 21 "java/lang/IndexOutOfBoundsException") (by decide +kernel)) ((hXW.2.2.2.1 "java/lang/IndexOutOfBoundsException" (by decide)).use rfl) hce hcv hcl ?_
      refine lv_astore (lv' := [(4, .ref q9), (0, .ref (aF 0)), (1, .int p1), (2, .int p2), (3, .ref ao)]) hx hb dL_gain_13 hl (by decide) rfl (fun ls hl => ?_)
      refine lv_iconst (v := (1 : Int32)) hx hb dL_gain_15 (by decide) ?_
      exact W.widen (k := 1) (n := 6) (Nat.le_of_ble_eq_true rfl) (Nat.le_of_ble_eq_true rfl) (W.iret (v := (1 : Int32)) hx hb hr (fun t ht hW => ⟨⟨(1 : Int32), (u, f), rfl, ⟨c, 0, hres, Or.inr ⟨0, hi, rfl⟩⟩, P_at ht hP⟩, hS.F ht⟩) hS.2.2 dL_gain_16)
  · rw [ht] at hB
    have hP := wrk2 (w2 := (wFm aF aN aT aL aO aH aP aX ++ (wSt cI aN u.1 ++ (wLo cI aL u.2 ++ (wOu aO aN aL)))) ++ wOt cJ ao f) (wr := wOt cJ ao f) hP hD [0, 1, 2, 3, 4, 5, 6, 7, 8, 9, 10, 11, 12, 13, 14, 15] [16] rfl rfl (by decide) hk1 hB [1, 2, 3, 4, 5, 6, 7, 8, 9, 10, 11, 12, 13, 14, 15, 16, 0] rfl
    have hD := D_addr (w1 := (wFm aF aN aT aL aO aH aP aX ++ (wSt cI aN u.1 ++ (wLo cI aL u.2 ++ (wOu aO aN aL)))) ++ wOt cJ ao f) hD rfl
    refine lv_i2l (v := r.toInt64) hx hb dL_gain_8 rfl ?_
    refine va_last hx hb hK hP hD hS 16 3 rfl rfl (by unfold vp_in; decide) dL_gain_9 (fun H2 locs2 hP hD hS => ?_)
    refine lv_goto (tgt := 17) hx hb dL_gain_10 (by decide) ?_
    refine lv_iconst (v := (0 : Int32)) hx hb dL_gain_17 (by decide) ?_
    have hP : va_P (dC, dI) vwCl ((wFm aF aN aT aL aO aH aP aX ++ (wSt cI aN u.1 ++ (wLo cI aL u.2 ++ (wOu aO aN aL)))) ++ wOt cJ ao (vp_updL f 0 r.toInt64)) H2 := hP
    exact W.widen (k := 1) (n := 6) (Nat.le_of_ble_eq_true rfl) (Nat.le_of_ble_eq_true rfl) (W.iret (v := (0 : Int32)) hx hb hr (fun t ht hW => ⟨⟨(0 : Int32), (u, vp_updL f 0 r.toInt64), rfl, ⟨0, r, hw, Or.inl ⟨rfl, rfl, rfl⟩⟩, P_at ht hP⟩, hS.F ht⟩) hS.2.2 dL_gain_18)
abbrev rm_L_bestDay : Room := { frames := 7, cells := 1, slots := 6, locals := 175 }
abbrev q_L_bestDay (dC : Nat → ClassId) (dI : Nat → Nat → Nat) (cI cZ cS cJ : ClassId) (aF aN aT aL aO aH : Nat → Nat) (ah : Nat → Nat → Nat) (aP aX : Nat → Nat) (ao : Nat) (S : Pic) (Y : Pic) (res : Int32 × Int32 × Pic × Pic) (A : Nat → Prop) : Array Value → State → Outcome → State → Prop := va_Qi (fun (k : Int32) (u : (Pic × Pic) × (Nat → Int64)) => ∃ c r : Int32, (c, r, u.1) = res ∧ wrp [1] c r k (u.2 0)) (fun u t => va_P (dC, dI) vwCl ((wFm aF aN aT aL aO aH aP aX ++ (wSt cI aN u.1.1 ++ (wLo cI aL u.1.2 ++ (wOu aO aN aL)))) ++ wOt cJ ao u.2) t.heap) A
set_option maxHeartbeats 4000000 in
set_option maxRecDepth 100000 in
theorem met_L_bestDay (l : Launch) (hfl : l.stackTraces = false) (dC : Nat → ClassId) (dI : Nat → Nat → Nat) (cI cZ cS cJ : ClassId) (aF aN aT aL aO aH : Nat → Nat) (ah : Nat → Nat → Nat) (aP aX : Nat → Nat) (ao : Nat) (f : Nat → Int64) (S : Pic) (Y : Pic) (base sz : Nat) (p1 : Int32) (res : Int32 × Int32 × Pic × Pic) (hR : f6_bestDay S Y p1 = res) (hks : ∀ c r, (∃ u, (c, r, u) = res) → c = 0 ∨ ∃ i : Nat, ([1] : List Int32)[i]? = some c) : Met l yL_bestDay wsL_bestDay rm_L_bestDay (va_Pc [.ref (aF 0), .int p1, .ref ao] (pL (dC, dI) cI cZ cS cJ ((wFm aF aN aT aL aO aH aP aX ++ (wSt cI aN S ++ (wLo cI aL Y ++ (wOu aO aN aL)))) ++ wOt cJ ao f) base sz)) (q_L_bestDay dC dI cI cZ cS cJ aF aN aT aL aO aH ah aP aX ao S Y res (va_A ((wFm aF aN aT aL aO aH aP aX ++ (wSt cI aN S ++ (wLo cI aL Y ++ (wOu aO aN aL)))) ++ wOt cJ ao f) sz)) 1 6 (va_A ((wFm aF aN aT aL aO aH aP aX ++ (wSt cI aN S ++ (wLo cI aL Y ++ (wOu aO aN aL)))) ++ wOt cJ ao f) sz) := by
  refine met_ofWH (cc := cL_bestDay) (maxL := 4) (ret := some .int) (hh := [(0, 9, 12, 21)]) (by decide) rfl ?_
  intro p e s m args below meth c s₁ B hml hv
  obtain ⟨rfl, ⟨hsz, hP, hK, hD0, hN, hbs, hXW⟩, hNC⟩ := hv
  have hx := B.exec
  have hb := B.bytes
  have hr := B.returns
  have hts := atoms_spec (ws := wsL_bestDay) B.pre
  have hown : s.vm.findClass RL = some m.cls := findClass_of_methodNamed B.named
  have hlocks := B.notSynchronized
  have htab := vx_table (x := yL_bestDay) B (hts _ List.mem_cons_self)
  subst hsz
  have hD := hD0.self (sz := s.heap.size)
  generalize hAe : va_A ((wFm aF aN aT aL aO aH aP aX ++ (wSt cI aN S ++ (wLo cI aL Y ++ (wOu aO aN aL)))) ++ wOt cJ ao f) s.heap.size = A at hD ⊢
  have hA : ∀ q : Nat, s.heap.size ≤ q → A q := fun q h => by rw [← hAe]; exact Or.inr h
  have hS : va_S A s.heap s.heap [] := va_S.rf
  have hP : va_P (dC, dI) vwCl ((wFm aF aN aT aL aO aH aP aX ++ (wSt cI aN S ++ (wLo cI aL Y ++ (wOu aO aN aL)))) ++ wOt cJ ao f) s.heap := hP
  have hK3 := hK.sub (tys' := tyS cI cZ cS) [0, 1, 2] rfl
  have hl := lv_entry ([.ref (aF 0), .int p1, .ref ao]) (n := 4) (Nat.le_of_ble_eq_true rfl)
  rw [lg_entry_eq]
  generalize (lg_sl ([.ref (aF 0), .int p1, .ref ao]) ++ List.replicate (4 - (lg_sl ([.ref (aF 0), .int p1, .ref ao])).length) Slot.unset).toArray = ls at hl ⊢
  have hl : lv_has ls 4 [(0, .ref (aF 0)), (1, .int p1), (2, .ref ao)] := hl
  refine lv_aload_n hx hb dL_bestDay_0 rfl (lv_at hl 2 rfl) ?_
  refine lv_iconst (v := (0 : Int32)) hx hb dL_bestDay_1 (by decide) ?_
  refine lv_aload_n hx hb dL_bestDay_2 rfl (lv_at hl 0 rfl) ?_
  refine lv_iload_n hx hb dL_bestDay_3 rfl (lv_at hl 1 rfl) ?_
  have hF := va_free (wc := wFm aF aN aT aL aO aH aP aX ++ (wSt cI aN S ++ (wLo cI aL Y ++ (wOu aO aN aL)))) hD hS hA [0, 1, 2, 3, 4, 5, 6, 7, 8, 9, 10, 11, 12, 13, 14, 15] rfl
  subst hR
  refine vx_calli (vx_runV (As := [.int p1]) (rest := [.int (0 : Int32), .ref ao]) ⟨hx, hb, hml, hown, hts⟩ (met_X6_bestDay l hfl dC dI cI cZ cS aF aN aT aL aO aH ah aP aX S Y base s.heap.size p1) (cwV 1 hts gL_bestDay_X6_bestDay rfl rfl rfl (by decide +kernel) ⟨Nat.le_of_ble_eq_true rfl, Nat.le_of_ble_eq_true rfl⟩) (pXV (wc := wFm aF aN aT aL aO aH aP aX ++ (wSt cI aN S ++ (wLo cI aL Y ++ (wOu aO aN aL)))) (ci := 6) (q0 := 0) hK3 hP hD0 hN hbs hXW [0, 1, 2, 3, 4, 5, 6, 7, 8, 9, 10, 11, 12, 13, 14, 15] rfl (by decide) rfl rfl) rfl rfl hl.1 rfl (lv_room (Nat.le_of_ble_eq_true rfl)) dL_bestDay_4 ⟨Nat.le_of_ble_eq_true rfl, Nat.le_of_ble_eq_true rfl⟩) hS (fun q _ h => hF q h) hF (fun q _ h => hF q h) (fun E ce q9 u t H1 locs ht hvm hpx hB hz1 hk1 hS hce hcv hcl => ?_) (fun r u t H1 locs ht hvm hw hB hz1 hk1 hS => ?_)
  · obtain ⟨c, hE, hc0, hres, hB⟩ := hB
    rw [ht] at hB
    have hP := wrk2 (w2 := (wFm aF aN aT aL aO aH aP aX ++ (wSt cI aN u.1 ++ (wLo cI aL u.2 ++ (wOu aO aN aL)))) ++ wOt cJ ao f) (wr := wOt cJ ao f) hP hD [0, 1, 2, 3, 4, 5, 6, 7, 8, 9, 10, 11, 12, 13, 14, 15] [16] rfl rfl (by decide) hk1 hB [1, 2, 3, 4, 5, 6, 7, 8, 9, 10, 11, 12, 13, 14, 15, 16, 0] rfl
    have hD := D_addr (w1 := (wFm aF aN aT aL aO aH aP aX ++ (wSt cI aN u.1 ++ (wLo cI aL u.2 ++ (wOu aO aN aL)))) ++ wOt cJ ao f) hD rfl
    have hres2 := hres
    have hcs := hks c 0 ⟨u, hres⟩
    rcases hcs with hcs | ⟨i, hi⟩
    · exact absurd hcs hc0
    have hil : i < 1 := by
      rcases Nat.lt_or_ge i 1 with q | q
      · exact q
      · rw [List.getElem?_eq_none (by simpa using q)] at hi; cases hi
    have hik : i = 0 := by omega
    rcases hik with rfl
    · have hc : c = 1 := (Option.some.inj hi).symm
      have hE : E = "java/lang/IndexOutOfBoundsException" := hE.symm.trans (by rw [hc]; rfl)
      subst hE
      refine vx_catch (name := "java/lang/IndexOutOfBoundsException") hown [] ⟨0, 9, 12, 21⟩ [] (htab.trans rfl) (fun z hz => by cases hz) (by decide) (by decide) (hts (.classLink RL 21 "java/lang/IndexOutOfBoundsException") (by decide +kernel)) ((hXW.2.2.2.1 "java/lang/IndexOutOfBoundsException" (by decide)).use rfl) hce hcv hcl ?_
      refine lv_astore_n (lv' := [(3, .ref q9), (0, .ref (aF 0)), (1, .int p1), (2, .ref ao)]) hx hb dL_bestDay_12 rfl hl (by decide) rfl (fun ls hl => ?_)
      refine lv_iconst (v := (1 : Int32)) hx hb dL_bestDay_13 (by decide) ?_
      exact W.widen (k := 1) (n := 6) (Nat.le_of_ble_eq_true rfl) (Nat.le_of_ble_eq_true rfl) (W.iret (v := (1 : Int32)) hx hb hr (fun t ht hW => ⟨⟨(1 : Int32), (u, f), rfl, ⟨c, 0, hres, Or.inr ⟨0, hi, rfl⟩⟩, P_at ht hP⟩, hS.F ht⟩) hS.2.2 dL_bestDay_14)
  · rw [ht] at hB
    have hP := wrk2 (w2 := (wFm aF aN aT aL aO aH aP aX ++ (wSt cI aN u.1 ++ (wLo cI aL u.2 ++ (wOu aO aN aL)))) ++ wOt cJ ao f) (wr := wOt cJ ao f) hP hD [0, 1, 2, 3, 4, 5, 6, 7, 8, 9, 10, 11, 12, 13, 14, 15] [16] rfl rfl (by decide) hk1 hB [1, 2, 3, 4, 5, 6, 7, 8, 9, 10, 11, 12, 13, 14, 15, 16, 0] rfl
    have hD := D_addr (w1 := (wFm aF aN aT aL aO aH aP aX ++ (wSt cI aN u.1 ++ (wLo cI aL u.2 ++ (wOu aO aN aL)))) ++ wOt cJ ao f) hD rfl
    refine lv_i2l (v := r.toInt64) hx hb dL_bestDay_7 rfl ?_
    refine va_last hx hb hK hP hD hS 16 3 rfl rfl (by unfold vp_in; decide) dL_bestDay_8 (fun H2 locs2 hP hD hS => ?_)
    refine lv_goto (tgt := 15) hx hb dL_bestDay_9 (by decide) ?_
    refine lv_iconst (v := (0 : Int32)) hx hb dL_bestDay_15 (by decide) ?_
    have hP : va_P (dC, dI) vwCl ((wFm aF aN aT aL aO aH aP aX ++ (wSt cI aN u.1 ++ (wLo cI aL u.2 ++ (wOu aO aN aL)))) ++ wOt cJ ao (vp_updL f 0 r.toInt64)) H2 := hP
    exact W.widen (k := 1) (n := 6) (Nat.le_of_ble_eq_true rfl) (Nat.le_of_ble_eq_true rfl) (W.iret (v := (0 : Int32)) hx hb hr (fun t ht hW => ⟨⟨(0 : Int32), (u, vp_updL f 0 r.toInt64), rfl, ⟨0, r, hw, Or.inl ⟨rfl, rfl, rfl⟩⟩, P_at ht hP⟩, hS.F ht⟩) hS.2.2 dL_bestDay_16)
