abbrev rm_X6_clear : Room := { frames := 4, cells := 0, slots := 0, locals := 90 }
abbrev q_X6_clear (dC : Nat → ClassId) (dI : Nat → Nat → Nat) (cI cZ cS : ClassId) (aF aN aT aL aO aH : Nat → Nat) (ah : Nat → Nat → Nat) (aP aX : Nat → Nat)  (res : Int32 × Pic × Pic × (Nat → Pic)) (A : Nat → Prop) : Array Value → State → Outcome → State → Prop := va_Qi (fun (r : Int32) (u : Pic × Pic × (Nat → Pic)) => (r, u) = res) (fun u t => va_P (dC, dI) vwCl (wFm aF aN aT aL aO aH aP aX ++ (wSt cI aN u.1 ++ (wHi cS aH ah u.2.1 ++ (wZs cI ah u.2.2)))) t.heap) A
set_option maxHeartbeats 4000000 in
set_option maxRecDepth 100000 in
theorem met_X6_clear (l : Launch) (dC : Nat → ClassId) (dI : Nat → Nat → Nat) (cI cZ cS : ClassId) (aF aN aT aL aO aH : Nat → Nat) (ah : Nat → Nat → Nat) (aP aX : Nat → Nat) (S : Pic) (G : Pic) (Z : (Nat → Pic)) (sz : Nat)  : Met l yX6_clear wsX6_clear rm_X6_clear (va_Pc [.ref (aF 0)] (pW (dC, dI) (tyS cI cZ cS) (wFm aF aN aT aL aO aH aP aX ++ (wSt cI aN S ++ (wHi cS aH ah G ++ (wZs cI ah Z)))) sz)) (q_X6_clear dC dI cI cZ cS aF aN aT aL aO aH ah aP aX (f6_clear S G Z) (va_A (wFm aF aN aT aL aO aH aP aX ++ (wSt cI aN S ++ (wHi cS aH ah G ++ (wZs cI ah Z)))) sz)) 0 0 (va_A (wFm aF aN aT aL aO aH aP aX ++ (wSt cI aN S ++ (wHi cS aH ah G ++ (wZs cI ah Z)))) sz) := by
  refine Met.ofW (cc := cX6_clear) (maxL := 2) (ret := (some .int)) (by decide) rfl ?_
  intro p e s m args below meth c s₁ B hml hv
  obtain ⟨rfl, hsz, hP, hK, hD0, hN⟩ := hv
  have hx := B.exec
  have hb := B.bytes
  have hr := B.returns
  have hts := atoms_spec (ws := wsX6_clear) B.pre
  have hown : s.vm.findClass RX6 = some m.cls := findClass_of_methodNamed B.named
  have hlocks := B.notSynchronized
  subst hsz
  have hD := hD0.self (sz := s.heap.size)
  generalize hAe : va_A (wFm aF aN aT aL aO aH aP aX ++ (wSt cI aN S ++ (wHi cS aH ah G ++ (wZs cI ah Z)))) s.heap.size = A at hD ⊢
  have hA : ∀ q : Nat, s.heap.size ≤ q → A q := fun q h => by rw [← hAe]; exact Or.inr h
  have hS : va_S A s.heap s.heap [] := va_S.rf
  have hP : va_P (dC, dI) vwCl (wFm aF aN aT aL aO aH aP aX ++ (wSt cI aN S ++ (wHi cS aH ah G ++ (wZs cI ah Z)))) s.heap := hP
  generalize hR : f6_clear S G Z = res
  rw [f6_clear] at hR
  have hin6 : ∀ w ∈ wsX60, w ∈ wsX6_clear := by decide +kernel
  have hin5 : ∀ w ∈ wsX50, w ∈ wsX6_clear := by decide +kernel
  have hl := lv_entry ([.ref (aF 0)]) (n := 2) (Nat.le_of_ble_eq_true rfl)
  rw [lg_entry_eq]
  generalize (lg_sl ([.ref (aF 0)]) ++ List.replicate (2 - (lg_sl ([.ref (aF 0)])).length) Slot.unset).toArray = ls at hl ⊢
  have hl : lv_has ls 2 [(0, .ref (aF 0))] := hl
  refine lv_aload_n hx hb dX6_clear_0 rfl (lv_at hl 0 rfl) ?_
  refine va_get (D := (dC, dI)) (ci := 6) (v := .ref (aN 0)) (C := RX6) (T := TX6) (N := 7) hx hb hts hin6 hown hK hP 0 rfl rfl 0 (by decide) (hw_ hts 1 rfl) (fun _ h9 => h9) rfl dX6_clear_1 ?_
  refine va_calli (va_runV (As := []) (rest := []) ⟨hx, hb, hml, hown, hts⟩ (met_X5_planCount l dC dI cI cZ cS aN S s.heap.size) (cwV 0 hts gX6_clear_X5_planCount rfl rfl rfl (by decide +kernel) ⟨Nat.le_of_ble_eq_true rfl, Nat.le_of_ble_eq_true rfl⟩) (pV (wc := wSt cI aN S) (ci := 5) (q0 := 1) hK hP hD hN [1, 2, 3, 4, 5, 6, 7, 8, 9, 10, 11] rfl (by decide) rfl rfl) rfl rfl hl.1 rfl (lv_room (Nat.le_of_ble_eq_true rfl)) dX6_clear_4 ⟨Nat.zero_le _, Nat.zero_le _⟩) hS (fun q _ h => a0_in hS hA q h) (a0_in hS hA) (fun r1 u t H1 locs ht hvm hw hB hz1 hk1 hS => ?_)
  have hR := bd_n hw hR
  have hP := rdk hP hk1
  refine lv_istore_n (lv' := [(1, .int r1), (0, .ref (aF 0))]) hx hb dX6_clear_7 rfl hl (by decide) rfl (fun ls hl => ?_)
  refine lv_aload_n hx hb dX6_clear_8 rfl (lv_at hl 1 rfl) ?_
  refine va_get (D := (dC, dI)) (ci := 6) (v := .ref (aH 0)) (C := RX6) (T := TX6) (N := 7) hx hb hts hin6 hown hK hP 0 rfl rfl 4 (by decide) (hw_ hts 2 rfl) (fun _ h9 => h9) rfl dX6_clear_9 ?_
  refine lv_aload_n hx hb dX6_clear_12 rfl (lv_at hl 1 rfl) ?_
  refine va_get (D := (dC, dI)) (ci := 6) (v := .ref (aN 0)) (C := RX6) (T := TX6) (N := 7) hx hb hts hin6 hown hK hP 0 rfl rfl 0 (by decide) (hw_ hts 1 rfl) (fun _ h9 => h9) rfl dX6_clear_13 ?_
  have hF := va_free (wc := wHi cS aH ah G ++ (wZs cI ah Z ++ (wSt cI aN S))) hD hS hA [12, 13, 14, 15, 16, 17, 18, 19, 20, 21, 22, 23, 24, 25, 26, 27, 28, 29, 30, 31, 32, 33, 34, 35, 36, 37, 38, 39, 40, 41, 42, 43, 44, 45, 46, 47, 48, 49, 50, 51, 52, 53, 54, 55, 56, 57, 58, 59, 60, 61, 62, 63, 64, 65, 66, 67, 68, 69, 70, 71, 72, 73, 74, 75, 76, 77, 78, 79, 1, 2, 3, 4, 5, 6, 7, 8, 9, 10, 11] rfl
  refine va_callv (va_runV (As := [.ref (aN 0)]) (rest := []) ⟨hx, hb, hml, hown, hts⟩ (met_X0_save l dC dI cI cZ cS aH ah aN G Z S H1.size) (cwV 1 hts gX6_clear_X0_save rfl rfl rfl (by decide +kernel) ⟨Nat.le_of_ble_eq_true rfl, Nat.le_of_ble_eq_true rfl⟩) (pV (wc := wHi cS aH ah G ++ (wZs cI ah Z ++ (wSt cI aN S))) (ci := 0) (q0 := 12) hK hP hD hN [12, 13, 14, 15, 16, 17, 18, 19, 20, 21, 22, 23, 24, 25, 26, 27, 28, 29, 30, 31, 32, 33, 34, 35, 36, 37, 38, 39, 40, 41, 42, 43, 44, 45, 46, 47, 48, 49, 50, 51, 52, 53, 54, 55, 56, 57, 58, 59, 60, 61, 62, 63, 64, 65, 66, 67, 68, 69, 70, 71, 72, 73, 74, 75, 76, 77, 78, 79, 1, 2, 3, 4, 5, 6, 7, 8, 9, 10, 11] rfl (by decide) rfl rfl) rfl rfl hl.1 rfl (lv_room (Nat.le_of_ble_eq_true rfl)) dX6_clear_16 ⟨Nat.zero_le _, Nat.zero_le _⟩) hS (fun q _ h => hF q h) hF (fun  u t H2 locs ht hvm hw hB hz1 hk1 hS => ?_)
  obtain ⟨u2, u3⟩ := u
  try dsimp only at hw hB
  rw [ht] at hB
  have hR := bd2_n hw hR
  have hP := wrk2 (w2 := wFm aF aN aT aL aO aH aP aX ++ (wSt cI aN S ++ (wHi cS aH ah u2 ++ (wZs cI ah u3)))) (wr := wFm aF aN aT aL aO aH aP aX) hP hD [12, 13, 14, 15, 16, 17, 18, 19, 20, 21, 22, 23, 24, 25, 26, 27, 28, 29, 30, 31, 32, 33, 34, 35, 36, 37, 38, 39, 40, 41, 42, 43, 44, 45, 46, 47, 48, 49, 50, 51, 52, 53, 54, 55, 56, 57, 58, 59, 60, 61, 62, 63, 64, 65, 66, 67, 68, 69, 70, 71, 72, 73, 74, 75, 76, 77, 78, 79, 1, 2, 3, 4, 5, 6, 7, 8, 9, 10, 11] [0] rfl rfl (by decide) hk1 hB [0, 69, 70, 71, 72, 73, 74, 75, 76, 77, 78, 79, 1, 2, 3, 4, 5, 6, 7, 8, 9, 10, 11, 12, 13, 14, 15, 16, 17, 18, 19, 20, 21, 22, 23, 24, 25, 26, 27, 28, 29, 30, 31, 32, 33, 34, 35, 36, 37, 38, 39, 40, 41, 42, 43, 44, 45, 46, 47, 48, 49, 50, 51, 52, 53, 54, 55, 56, 57, 58, 59, 60, 61, 62, 63, 64, 65, 66, 67, 68] rfl
  have hD := D_addr (w1 := wFm aF aN aT aL aO aH aP aX ++ (wSt cI aN S ++ (wHi cS aH ah u2 ++ (wZs cI ah u3)))) hD rfl
  refine lv_aload_n hx hb dX6_clear_19 rfl (lv_at hl 1 rfl) ?_
  refine va_get (D := (dC, dI)) (ci := 6) (v := .ref (aN 0)) (C := RX6) (T := TX6) (N := 7) hx hb hts hin6 hown hK hP 0 rfl rfl 0 (by decide) (hw_ hts 1 rfl) (fun _ h9 => h9) rfl dX6_clear_20 ?_
  refine va_get (D := (dC, dI)) (ci := 5) (v := .ref (aN 11)) (C := RX5) (T := TX5) (N := 12) hx hb hts hin5 hown hK hP 1 rfl rfl 11 (by decide) (hw_ hts 3 rfl) (fun _ h9 => h9) rfl dX6_clear_23 ?_
  refine lv_iconst (v := (-1 : Int32)) hx hb dX6_clear_26 (by decide) ?_
  have hF := va_free (wc := [((aN 11), .inl (cI, 84, .inl (S 11)))]) hD hS hA [11] rfl
  refine va_callv (va_runS (As := [.ref (aN 11), .int (-1 : Int32)]) (rest := []) ⟨hx, hb, hml, hown, hts⟩ (met_J7_fill_53178 l dC dI cI cZ cS (aN 11) 84 (by decide) (S 11) H2.size (-1 : Int32)) (va_cwS 2 hts gX6_clear_J7_fill_53178 rfl rfl rfl (by decide +kernel) ⟨Nat.le_of_ble_eq_true rfl, Nat.le_of_ble_eq_true rfl⟩) (pS (wc := [((aN 11), .inl (cI, 84, .inl (S 11)))]) hK hP hD hN [11] rfl (by decide)) rfl rfl hl.1 rfl (lv_room (Nat.le_of_ble_eq_true rfl)) dX6_clear_27 ⟨Nat.zero_le _, Nat.zero_le _⟩) hS (fun q _ h => hF q h) hF (fun  u4 t H3 locs ht hvm hw hB hz1 hk1 hS => ?_)
  try dsimp only at hw hB
  rw [ht] at hB
  subst hw
  have hP := wrk (w2 := wFm aF aN aT aL aO aH aP aX ++ (wSt cI aN (pset S 11 (fJ7_fill_53178 84 (S 11) (-1 : Int32))) ++ (wHi cS aH ah u2 ++ (wZs cI ah u3)))) hP hD [11] rfl (by decide) hk1 hB rfl rfl
  have hD := D_addr (w1 := wFm aF aN aT aL aO aH aP aX ++ (wSt cI aN (pset S 11 (fJ7_fill_53178 84 (S 11) (-1 : Int32))) ++ (wHi cS aH ah u2 ++ (wZs cI ah u3)))) hD rfl
  obtain ⟨Sb5, hSb5⟩ : ∃ z : Pic, z = (pset S 11 (fJ7_fill_53178 84 (S 11) (-1 : Int32))) := ⟨_, rfl⟩
  rw [← hSb5] at hP hD
  have hR := bd_n hSb5 hR
  refine lv_iload_n hx hb dX6_clear_30 rfl (lv_at hl 0 rfl) ?_
  exact W.iret (v := r1) hx hb hr (fun t ht hW => ⟨⟨r1, (Sb5, u2, u3), rfl, hR, P_at ht hP⟩, hS.F ht⟩) hS.2.2 dX6_clear_31
abbrev rm_X6_clearBuffer : Room := { frames := 1, cells := 0, slots := 0, locals := 20 }
abbrev q_X6_clearBuffer (dC : Nat → ClassId) (dI : Nat → Nat → Nat) (cI cZ cS : ClassId) (aF aN aT aL aO aH : Nat → Nat) (ah : Nat → Nat → Nat) (aP aX : Nat → Nat)  (res : Int32 × Pic) (A : Nat → Prop) : Array Value → State → Outcome → State → Prop := va_Qi (fun (r : Int32) (u : Pic) => (r, u) = res) (fun u t => va_P (dC, dI) vwCl (wFm aF aN aT aL aO aH aP aX ++ (wTx cI aX u)) t.heap) A
set_option maxHeartbeats 4000000 in
set_option maxRecDepth 100000 in
theorem met_X6_clearBuffer (l : Launch) (dC : Nat → ClassId) (dI : Nat → Nat → Nat) (cI cZ cS : ClassId) (aF aN aT aL aO aH : Nat → Nat) (ah : Nat → Nat → Nat) (aP aX : Nat → Nat) (T : Pic) (sz : Nat)  : Met l yX6_clearBuffer wsX6_clearBuffer rm_X6_clearBuffer (va_Pc [.ref (aF 0)] (pW (dC, dI) (tyS cI cZ cS) (wFm aF aN aT aL aO aH aP aX ++ (wTx cI aX T)) sz)) (q_X6_clearBuffer dC dI cI cZ cS aF aN aT aL aO aH ah aP aX (f6_clearBuffer T) (va_A (wFm aF aN aT aL aO aH aP aX ++ (wTx cI aX T)) sz)) 0 0 (va_A (wFm aF aN aT aL aO aH aP aX ++ (wTx cI aX T)) sz) := by
  refine Met.ofW (cc := cX6_clearBuffer) (maxL := 2) (ret := (some .int)) (by decide) rfl ?_
  intro p e s m args below meth c s₁ B hml hv
  obtain ⟨rfl, hsz, hP, hK, hD0, hN⟩ := hv
  have hx := B.exec
  have hb := B.bytes
  have hr := B.returns
  have hts := atoms_spec (ws := wsX6_clearBuffer) B.pre
  have hown : s.vm.findClass RX6 = some m.cls := findClass_of_methodNamed B.named
  have hlocks := B.notSynchronized
  subst hsz
  have hD := hD0.self (sz := s.heap.size)
  generalize hAe : va_A (wFm aF aN aT aL aO aH aP aX ++ (wTx cI aX T)) s.heap.size = A at hD ⊢
  have hA : ∀ q : Nat, s.heap.size ≤ q → A q := fun q h => by rw [← hAe]; exact Or.inr h
  have hS : va_S A s.heap s.heap [] := va_S.rf
  have hP : va_P (dC, dI) vwCl (wFm aF aN aT aL aO aH aP aX ++ (wTx cI aX T)) s.heap := hP
  generalize hR : f6_clearBuffer T = res
  rw [f6_clearBuffer] at hR
  have hin6 : ∀ w ∈ wsX60, w ∈ wsX6_clearBuffer := by decide +kernel
  have hin3 : ∀ w ∈ wsX30, w ∈ wsX6_clearBuffer := by decide +kernel
  have hl := lv_entry ([.ref (aF 0)]) (n := 2) (Nat.le_of_ble_eq_true rfl)
  rw [lg_entry_eq]
  generalize (lg_sl ([.ref (aF 0)]) ++ List.replicate (2 - (lg_sl ([.ref (aF 0)])).length) Slot.unset).toArray = ls at hl ⊢
  have hl : lv_has ls 2 [(0, .ref (aF 0))] := hl
  refine lv_aload_n hx hb dX6_clearBuffer_0 rfl (lv_at hl 0 rfl) ?_
  refine va_get (D := (dC, dI)) (ci := 6) (v := .ref (aX 0)) (C := RX6) (T := TX6) (N := 7) hx hb hts hin6 hown hK hP 0 rfl rfl 6 (by decide) (hw_ hts 1 rfl) (fun _ h9 => h9) rfl dX6_clearBuffer_1 ?_
  refine va_get (D := (dC, dI)) (ci := 3) (v := .int ((T 1) 0)) (C := RX3) (T := TX3) (N := 2) hx hb hts hin3 hown hK hP 1 rfl rfl 1 (by decide) (hw_ hts 2 rfl) (fun _ h9 => h9) rfl dX6_clearBuffer_4 ?_
  refine lv_topi (fun v1 hv1 => ?_)
  have hR := bd_n hv1 hR
  refine lv_istore_n (lv' := [(1, .int v1), (0, .ref (aF 0))]) hx hb dX6_clearBuffer_7 rfl hl (by decide) rfl (fun ls hl => ?_)
  refine lv_aload_n hx hb dX6_clearBuffer_8 rfl (lv_at hl 1 rfl) ?_
  refine va_get (D := (dC, dI)) (ci := 6) (v := .ref (aX 0)) (C := RX6) (T := TX6) (N := 7) hx hb hts hin6 hown hK hP 0 rfl rfl 6 (by decide) (hw_ hts 1 rfl) (fun _ h9 => h9) rfl dX6_clearBuffer_9 ?_
  have hF := va_free (wc := wTx cI aX T) hD hS hA [1, 2] rfl
  refine va_callv (va_runV (As := []) (rest := []) ⟨hx, hb, hml, hown, hts⟩ (met_X3_makeEmpty l dC dI cI cZ cS aX T s.heap.size) (cwV 0 hts gX6_clearBuffer_X3_makeEmpty rfl rfl rfl (by decide +kernel) ⟨Nat.le_of_ble_eq_true rfl, Nat.le_of_ble_eq_true rfl⟩) (pV (wc := wTx cI aX T) (ci := 3) (q0 := 1) hK hP hD hN [1, 2] rfl (by decide) rfl rfl) rfl rfl hl.1 rfl (lv_room (Nat.le_of_ble_eq_true rfl)) dX6_clearBuffer_12 ⟨Nat.zero_le _, Nat.zero_le _⟩) hS (fun q _ h => hF q h) hF (fun  u2 t H1 locs ht hvm hw hB hz1 hk1 hS => ?_)
  try dsimp only at hw hB
  rw [ht] at hB
  have hR := bd_n hw hR
  have hP := wrk2 (w2 := wFm aF aN aT aL aO aH aP aX ++ (wTx cI aX u2)) (wr := wFm aF aN aT aL aO aH aP aX) hP hD [1, 2] [0] rfl rfl (by decide) hk1 hB [0, 1, 2] rfl
  have hD := D_addr (w1 := wFm aF aN aT aL aO aH aP aX ++ (wTx cI aX u2)) hD rfl
  refine lv_iload_n hx hb dX6_clearBuffer_15 rfl (lv_at hl 0 rfl) ?_
  exact W.iret (v := v1) hx hb hr (fun t ht hW => ⟨⟨v1, u2, rfl, hR, P_at ht hP⟩, hS.F ht⟩) hS.2.2 dX6_clearBuffer_16
abbrev rm_X6_firstError : Room := { frames := 4, cells := 0, slots := 0, locals := 85 }
abbrev q_X6_firstError (dC : Nat → ClassId) (dI : Nat → Nat → Nat) (cI cZ cS : ClassId) (aF aN aT aL aO aH : Nat → Nat) (ah : Nat → Nat → Nat) (aP aX : Nat → Nat)  (res : Int32) (A : Nat → Prop) : Array Value → State → Outcome → State → Prop := va_Qi (fun (r : Int32) (u : Unit) => r = res) (fun _ _ => True) A
set_option maxHeartbeats 4000000 in
set_option maxRecDepth 100000 in
theorem met_X6_firstError (l : Launch) (dC : Nat → ClassId) (dI : Nat → Nat → Nat) (cI cZ cS : ClassId) (aF aN aT aL aO aH : Nat → Nat) (ah : Nat → Nat → Nat) (aP aX : Nat → Nat) (T : Pic) (sz : Nat)  : Met l yX6_firstError wsX6_firstError rm_X6_firstError (va_Pc [.ref (aF 0)] (pW (dC, dI) (tyS cI cZ cS) (wFm aF aN aT aL aO aH aP aX ++ (wTx cI aX T)) sz)) (q_X6_firstError dC dI cI cZ cS aF aN aT aL aO aH ah aP aX (f6_firstError T) (a0 sz)) 0 0 (a0 sz) := by
  refine Met.ofW (cc := cX6_firstError) (maxL := 1) (ret := (some .int)) (by decide) rfl ?_
  intro p e s m args below meth c s₁ B hml hv
  obtain ⟨rfl, hsz, hP, hK, hD0, hN⟩ := hv
  have hx := B.exec
  have hb := B.bytes
  have hr := B.returns
  have hts := atoms_spec (ws := wsX6_firstError) B.pre
  have hown : s.vm.findClass RX6 = some m.cls := findClass_of_methodNamed B.named
  have hlocks := B.notSynchronized
  subst hsz
  have hD := hD0
  have hA : ∀ q : Nat, s.heap.size ≤ q → a0 s.heap.size q := fun q h => Or.inr h
  have hS : va_S (a0 s.heap.size) s.heap s.heap [] := va_S.rf
  have hP : va_P (dC, dI) vwCl (wFm aF aN aT aL aO aH aP aX ++ (wTx cI aX T)) s.heap := hP
  generalize hR : f6_firstError T = res
  rw [f6_firstError] at hR
  have hin6 : ∀ w ∈ wsX60, w ∈ wsX6_firstError := by decide +kernel
  have hl := lv_entry ([.ref (aF 0)]) (n := 1) (Nat.le_of_ble_eq_true rfl)
  rw [lg_entry_eq]
  generalize (lg_sl ([.ref (aF 0)]) ++ List.replicate (1 - (lg_sl ([.ref (aF 0)])).length) Slot.unset).toArray = ls at hl ⊢
  have hl : lv_has ls 1 [(0, .ref (aF 0))] := hl
  refine lv_aload_n hx hb dX6_firstError_0 rfl (lv_at hl 0 rfl) ?_
  refine va_get (D := (dC, dI)) (ci := 6) (v := .ref (aX 0)) (C := RX6) (T := TX6) (N := 7) hx hb hts hin6 hown hK hP 0 rfl rfl 6 (by decide) (hw_ hts 1 rfl) (fun _ h9 => h9) rfl dX6_firstError_1 ?_
  refine va_calli (va_runV (As := []) (rest := []) ⟨hx, hb, hml, hown, hts⟩ (met_X3_errorIndex l dC dI cI cZ cS aX T s.heap.size) (cwV 0 hts gX6_firstError_X3_errorIndex rfl rfl rfl (by decide +kernel) ⟨Nat.le_of_ble_eq_true rfl, Nat.le_of_ble_eq_true rfl⟩) (pV (wc := wTx cI aX T) (ci := 3) (q0 := 1) hK hP hD hN [1, 2] rfl (by decide) rfl rfl) rfl rfl hl.1 rfl (lv_room (Nat.le_of_ble_eq_true rfl)) dX6_firstError_4 ⟨Nat.zero_le _, Nat.zero_le _⟩) hS (fun q _ h => a0_in hS hA q h) (a0_in hS hA) (fun r1 u t H1 locs ht hvm hw hB hz1 hk1 hS => ?_)
  have hR := bd_n hw hR
  have hP := rdk hP hk1
  exact W.iret (v := r1) hx hb hr (fun t ht hW => ⟨⟨r1, (), rfl, hR, trivial⟩, hS.F ht⟩) hS.2.2 dX6_firstError_7
