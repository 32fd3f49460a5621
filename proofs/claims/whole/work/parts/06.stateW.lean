abbrev rm_X6_copyRow : Room := { frames := 1, cells := 0, slots := 0, locals := 26 }
abbrev q_X6_copyRow (dC : Nat → ClassId) (dI : Nat → Nat → Nat) (cI cZ cS : ClassId) (q : Nat) (n : Nat) (hn : n < 2 ^ 31) (q1 : Nat) (n1 : Nat) (hn1 : n1 < 2 ^ 31) (f : (Nat → Int32)) (res : (Nat → Int32)) (A : Nat → Prop) : Array Value → State → Outcome → State → Prop := va_Qv (fun (u : (Nat → Int32)) => u = res) (fun u t => va_P (dC, dI) vwCl ([(q, .inl (cI, n, .inl f))] ++ ([(q1, .inl (cI, n1, .inl u))])) t.heap) A
set_option maxHeartbeats 4000000 in
set_option maxRecDepth 100000 in
theorem met_X6_copyRow (l : Launch) (dC : Nat → ClassId) (dI : Nat → Nat → Nat) (cI cZ cS : ClassId) (q : Nat) (n : Nat) (hn : n < 2 ^ 31) (q1 : Nat) (n1 : Nat) (hn1 : n1 < 2 ^ 31) (f : (Nat → Int32)) (f1 : (Nat → Int32)) (sz : Nat)  : Met l yX6_copyRow wsX6_copyRow rm_X6_copyRow (va_Pc [.ref q, .ref q1] (pW (dC, dI) (tyS cI cZ cS) ([(q, .inl (cI, n, .inl f))] ++ ([(q1, .inl (cI, n1, .inl f1))])) sz)) (q_X6_copyRow dC dI cI cZ cS q n hn q1 n1 hn1 f (f6_copyRow n n1 f f1) (va_A ([(q, .inl (cI, n, .inl f))] ++ ([(q1, .inl (cI, n1, .inl f1))])) sz)) 0 0 (va_A ([(q, .inl (cI, n, .inl f))] ++ ([(q1, .inl (cI, n1, .inl f1))])) sz) := by
  refine Met.ofW (cc := cX6_copyRow) (maxL := 2) (ret := none) (by decide) rfl ?_
  intro p e s m args below meth c s₁ B hml hv
  obtain ⟨rfl, hsz, hP, hK, hD0, hN⟩ := hv
  have hx := B.exec
  have hb := B.bytes
  have hr := B.returns
  have hts := atoms_spec (ws := wsX6_copyRow) B.pre
  have hown : s.vm.findClass RX6 = some m.cls := findClass_of_methodNamed B.named
  have hlocks := B.notSynchronized
  subst hsz
  have hD := hD0.self (sz := s.heap.size)
  generalize hAe : va_A ([(q, .inl (cI, n, .inl f))] ++ ([(q1, .inl (cI, n1, .inl f1))])) s.heap.size = A at hD ⊢
  have hA : ∀ q : Nat, s.heap.size ≤ q → A q := fun q h => by rw [← hAe]; exact Or.inr h
  have hS : va_S A s.heap s.heap [] := va_S.rf
  have hP : va_P (dC, dI) vwCl ([(q, .inl (cI, n, .inl f))] ++ ([(q1, .inl (cI, n1, .inl f1))])) s.heap := hP
  generalize hR : f6_copyRow n n1 f f1 = res
  rw [f6_copyRow] at hR
  have hl := lv_entry ([.ref q, .ref q1]) (n := 2) (Nat.le_of_ble_eq_true rfl)
  rw [lg_entry_eq]
  generalize (lg_sl ([.ref q, .ref q1]) ++ List.replicate (2 - (lg_sl ([.ref q, .ref q1])).length) Slot.unset).toArray = ls at hl ⊢
  have hl : lv_has ls 2 [(0, .ref q), (1, .ref q1)] := hl
  refine lv_aload_n hx hb dX6_copyRow_0 rfl (lv_at hl 0 rfl) ?_
  refine lv_ifnull hx hb dX6_copyRow_1 ?_
  refine lv_aload_n hx hb dX6_copyRow_4 rfl (lv_at hl 1 rfl) ?_
  refine lv_ifnull hx hb dX6_copyRow_5 ?_
  refine lv_aload_n hx hb dX6_copyRow_8 rfl (lv_at hl 0 rfl) ?_
  refine lv_iconst (v := (0 : Int32)) hx hb dX6_copyRow_9 (by decide) ?_
  refine lv_aload_n hx hb dX6_copyRow_10 rfl (lv_at hl 1 rfl) ?_
  refine lv_iconst (v := (0 : Int32)) hx hb dX6_copyRow_11 (by decide) ?_
  refine lv_aload_n hx hb dX6_copyRow_12 rfl (lv_at hl 0 rfl) ?_
  refine va_alen (v := nI n) hx hb hK hP 0 0 rfl rfl rfl dX6_copyRow_13 ?_
  refine lv_aload_n hx hb dX6_copyRow_14 rfl (lv_at hl 1 rfl) ?_
  refine va_alen (v := nI n1) hx hb hK hP 1 0 rfl rfl rfl dX6_copyRow_15 ?_
  refine va_mmin hx hb (hml.trans hl.1.symm) hown (hw_ hts 1 rfl) (hw_ hts 2 rfl) (hw_ hts 3 rfl) (hw_ hts 4 rfl) (Nat.le_of_ble_eq_true rfl) (Nat.le_of_ble_eq_true rfl) (Nat.zero_le _) (Nat.zero_le _) dX6_copyRow_16 ?_
  have hmn := mn_ok hn hn1
  refine va_copyi (f := f) (g := f1) (ty := .int) hx hb (hml.trans hl.1.symm) hown (hw_ hts 5 rfl) (hw_ hts 6 rfl) (hw_ hts 7 rfl) (hw_ hts 8 rfl) hK hP hD hS 0 1 0 0 rfl rfl rfl rfl rfl (by decide) (by decide) hmn.1 hmn.2.1 hmn.2.2 (fun _ _ => rfl) (Nat.le_of_ble_eq_true rfl) (Nat.le_of_ble_eq_true rfl) dX6_copyRow_19 (fun H1 locs hP hD hS => ?_)
  have hP : va_P (dC, dI) vwCl ([(q, .inl (cI, n, .inl f))] ++ ([(q1, .inl (cI, n1, .inl (va_cpy f f1 (ix (0 : Int32)) (ix (0 : Int32)) (ix (if (nI n1) < (nI n) then (nI n1) else (nI n))))))])) H1 := hP
  have hD : va_D A ([(q, .inl (cI, n, .inl f))] ++ ([(q1, .inl (cI, n1, .inl (va_cpy f f1 (ix (0 : Int32)) (ix (0 : Int32)) (ix (if (nI n1) < (nI n) then (nI n1) else (nI n))))))])) := hD
  obtain ⟨f1b1, hf1b1⟩ : ∃ z : (Nat → Int32), z = (va_cpy f f1 (ix (0 : Int32)) (ix (0 : Int32)) (ix (if (nI n1) < (nI n) then (nI n1) else (nI n)))) := ⟨_, rfl⟩
  rw [← hf1b1] at hP hD
  have hR := bd_n hf1b1 hR
  exact W.vret hx hb hr (fun t ht hW => ⟨⟨f1b1, rfl, hR, P_at ht hP⟩, hS.F ht⟩) hS.2.2 dX6_copyRow_22
abbrev rm_X5_newDish : Room := { frames := 1, cells := 0, slots := 0, locals := 22 }
abbrev q_X5_newDish (dC : Nat → ClassId) (dI : Nat → Nat → Nat) (cI cZ cS : ClassId) (aS : Nat → Nat)  (res : Int32 × Pic) (A : Nat → Prop) : Array Value → State → Outcome → State → Prop := va_Qi (fun (r : Int32) (u : Pic) => (r, u) = res) (fun u t => va_P (dC, dI) vwCl (wSt cI aS u) t.heap) A
set_option maxHeartbeats 4000000 in
set_option maxRecDepth 100000 in
theorem met_X5_newDish (l : Launch) (dC : Nat → ClassId) (dI : Nat → Nat → Nat) (cI cZ cS : ClassId) (aS : Nat → Nat) (S : Pic) (sz : Nat) (p1 : Int32) (p2 : Int32) (p3 : Int32) (p4 : Int32) : Met l yX5_newDish wsX5_newDish rm_X5_newDish (va_Pc [.ref (aS 0), .int p1, .int p2, .int p3, .int p4] (pW (dC, dI) (tyS cI cZ cS) (wSt cI aS S) sz)) (q_X5_newDish dC dI cI cZ cS aS (f5_newDish S p1 p2 p3 p4) (va_A (wSt cI aS S) sz)) 0 0 (va_A (wSt cI aS S) sz) := by
  refine Met.ofW (cc := cX5_newDish) (maxL := 6) (ret := (some .int)) (by decide) rfl ?_
  intro p e s m args below meth c s₁ B hml hv
  obtain ⟨rfl, hsz, hP, hK, hD0, hN⟩ := hv
  have hx := B.exec
  have hb := B.bytes
  have hr := B.returns
  have hts := atoms_spec (ws := wsX5_newDish) B.pre
  have hown : s.vm.findClass RX5 = some m.cls := findClass_of_methodNamed B.named
  have hlocks := B.notSynchronized
  subst hsz
  have hD := hD0.self (sz := s.heap.size)
  generalize hAe : va_A (wSt cI aS S) s.heap.size = A at hD ⊢
  have hA : ∀ q : Nat, s.heap.size ≤ q → A q := fun q h => by rw [← hAe]; exact Or.inr h
  have hS : va_S A s.heap s.heap [] := va_S.rf
  have hP : va_P (dC, dI) vwCl (wSt cI aS S) s.heap := hP
  generalize hR : f5_newDish S p1 p2 p3 p4 = res
  rw [f5_newDish] at hR
  have hin5 : ∀ w ∈ wsX50, w ∈ wsX5_newDish := by decide +kernel
  have hl := lv_entry ([.ref (aS 0), .int p1, .int p2, .int p3, .int p4]) (n := 6) (Nat.le_of_ble_eq_true rfl)
  rw [lg_entry_eq]
  generalize (lg_sl ([.ref (aS 0), .int p1, .int p2, .int p3, .int p4]) ++ List.replicate (6 - (lg_sl ([.ref (aS 0), .int p1, .int p2, .int p3, .int p4])).length) Slot.unset).toArray = ls at hl ⊢
  have hl : lv_has ls 6 [(0, .ref (aS 0)), (1, .int p1), (2, .int p2), (3, .int p3), (4, .int p4)] := hl
  refine lv_aload_n hx hb dX5_newDish_0 rfl (lv_at hl 0 rfl) ?_
  refine va_get (D := (dC, dI)) (ci := 5) (v := .int ((S 0) 0)) (C := RX5) (T := TX5) (N := 12) hx hb hts hin5 hown hK hP 0 rfl rfl 0 (by decide) (hw_ hts 1 rfl) (fun _ h9 => h9) rfl dX5_newDish_1 ?_
  refine lv_topi (fun v1 hv1 => ?_)
  have hR := bd_n hv1 hR
  refine lv_istore (lv' := [(5, .int v1), (0, .ref (aS 0)), (1, .int p1), (2, .int p2), (3, .int p3), (4, .int p4)]) hx hb dX5_newDish_4 hl (by decide) rfl (fun ls hl => ?_)
  refine lv_aload_n hx hb dX5_newDish_6 rfl (lv_at hl 1 rfl) ?_
  refine va_get (D := (dC, dI)) (ci := 5) (v := .ref (aS 1)) (C := RX5) (T := TX5) (N := 12) hx hb hts hin5 hown hK hP 0 rfl rfl 1 (by decide) (hw_ hts 2 rfl) (fun _ h9 => h9) rfl dX5_newDish_7 ?_
  refine lv_iload hx hb dX5_newDish_10 (lv_at hl 0 rfl) ?_
  refine lv_iload_n hx hb dX5_newDish_12 rfl (lv_at hl 2 rfl) ?_
  have hF := va_free (wc := [((aS 1), .inl (cI, 12, .inl (S 1)))]) hD hS hA [1] rfl
  refine va_callv (va_runSN (As := [.ref (aS 1), .int v1, .int p1]) (rest := []) ⟨hx, hb, hml, hown, hts⟩ (met_X6_put l dC dI cI cZ cS (aS 1) 12 (by decide) (S 1) s.heap.size v1 p1) ⟨va_cnB 3 hts ggX5_newDish_X6_put rfl rfl rfl (hN_0 hN) (hw_ hts 9 rfl) (by decide +kernel) ⟨Nat.le_of_ble_eq_true rfl, Nat.le_of_ble_eq_true rfl⟩, (hw_ hts 8 rfl), trivial⟩ (pS (wc := [((aS 1), .inl (cI, 12, .inl (S 1)))]) hK hP hD hN [1] rfl (by decide)) rfl rfl hl.1 rfl (lv_room (Nat.le_of_ble_eq_true rfl)) dX5_newDish_13 ⟨Nat.zero_le _, Nat.zero_le _⟩) hS (fun q _ h => hF q h) hF (fun  u2 t H1 locs ht hvm hw hB hz1 hk1 hS => ?_)
  try dsimp only at hw hB
  rw [ht] at hB
  subst hw
  have hP := wrk (w2 := wSt cI aS (pset S 1 (f6_put 12 (S 1) v1 p1))) hP hD [1] rfl (by decide) hk1 hB rfl rfl
  have hD := D_addr (w1 := wSt cI aS (pset S 1 (f6_put 12 (S 1) v1 p1))) hD rfl
  obtain ⟨Sb3, hSb3⟩ : ∃ z : Pic, z = (pset S 1 (f6_put 12 (S 1) v1 p1)) := ⟨_, rfl⟩
  rw [← hSb3] at hP hD
  have hR := bd_n hSb3 hR
  refine lv_aload_n hx hb dX5_newDish_16 rfl (lv_at hl 1 rfl) ?_
  refine va_get (D := (dC, dI)) (ci := 5) (v := .ref (aS 2)) (C := RX5) (T := TX5) (N := 12) hx hb hts hin5 hown hK hP 0 rfl rfl 2 (by decide) (hw_ hts 3 rfl) (fun _ h9 => h9) rfl dX5_newDish_17 ?_
  refine lv_iload hx hb dX5_newDish_20 (lv_at hl 0 rfl) ?_
  refine lv_iload_n hx hb dX5_newDish_22 rfl (lv_at hl 3 rfl) ?_
  have hF := va_free (wc := [((aS 2), .inl (cI, 12, .inl (Sb3 2)))]) hD hS hA [2] rfl
  refine va_callv (va_runSN (As := [.ref (aS 2), .int v1, .int p2]) (rest := []) ⟨hx, hb, hml, hown, hts⟩ (met_X6_put l dC dI cI cZ cS (aS 2) 12 (by decide) (Sb3 2) H1.size v1 p2) ⟨va_cnB 3 hts ggX5_newDish_X6_put rfl rfl rfl (hN_0 hN) (hw_ hts 9 rfl) (by decide +kernel) ⟨Nat.le_of_ble_eq_true rfl, Nat.le_of_ble_eq_true rfl⟩, (hw_ hts 8 rfl), trivial⟩ (pS (wc := [((aS 2), .inl (cI, 12, .inl (Sb3 2)))]) hK hP hD hN [2] rfl (by decide)) rfl rfl hl.1 rfl (lv_room (Nat.le_of_ble_eq_true rfl)) dX5_newDish_23 ⟨Nat.zero_le _, Nat.zero_le _⟩) hS (fun q _ h => hF q h) hF (fun  u4 t H2 locs ht hvm hw hB hz1 hk1 hS => ?_)
  try dsimp only at hw hB
  rw [ht] at hB
  subst hw
  have hP := wrk (w2 := wSt cI aS (pset Sb3 2 (f6_put 12 (Sb3 2) v1 p2))) hP hD [2] rfl (by decide) hk1 hB rfl rfl
  have hD := D_addr (w1 := wSt cI aS (pset Sb3 2 (f6_put 12 (Sb3 2) v1 p2))) hD rfl
  obtain ⟨Sb5, hSb5⟩ : ∃ z : Pic, z = (pset Sb3 2 (f6_put 12 (Sb3 2) v1 p2)) := ⟨_, rfl⟩
  rw [← hSb5] at hP hD
  have hR := bd_n hSb5 hR
  refine lv_aload_n hx hb dX5_newDish_26 rfl (lv_at hl 1 rfl) ?_
  refine va_get (D := (dC, dI)) (ci := 5) (v := .ref (aS 3)) (C := RX5) (T := TX5) (N := 12) hx hb hts hin5 hown hK hP 0 rfl rfl 3 (by decide) (hw_ hts 4 rfl) (fun _ h9 => h9) rfl dX5_newDish_27 ?_
  refine lv_iload hx hb dX5_newDish_30 (lv_at hl 0 rfl) ?_
  refine lv_iload_n hx hb dX5_newDish_32 rfl (lv_at hl 4 rfl) ?_
  have hF := va_free (wc := [((aS 3), .inl (cI, 12, .inl (Sb5 3)))]) hD hS hA [3] rfl
  refine va_callv (va_runSN (As := [.ref (aS 3), .int v1, .int p3]) (rest := []) ⟨hx, hb, hml, hown, hts⟩ (met_X6_put l dC dI cI cZ cS (aS 3) 12 (by decide) (Sb5 3) H2.size v1 p3) ⟨va_cnB 3 hts ggX5_newDish_X6_put rfl rfl rfl (hN_0 hN) (hw_ hts 9 rfl) (by decide +kernel) ⟨Nat.le_of_ble_eq_true rfl, Nat.le_of_ble_eq_true rfl⟩, (hw_ hts 8 rfl), trivial⟩ (pS (wc := [((aS 3), .inl (cI, 12, .inl (Sb5 3)))]) hK hP hD hN [3] rfl (by decide)) rfl rfl hl.1 rfl (lv_room (Nat.le_of_ble_eq_true rfl)) dX5_newDish_33 ⟨Nat.zero_le _, Nat.zero_le _⟩) hS (fun q _ h => hF q h) hF (fun  u6 t H3 locs ht hvm hw hB hz1 hk1 hS => ?_)
  try dsimp only at hw hB
  rw [ht] at hB
  subst hw
  have hP := wrk (w2 := wSt cI aS (pset Sb5 3 (f6_put 12 (Sb5 3) v1 p3))) hP hD [3] rfl (by decide) hk1 hB rfl rfl
  have hD := D_addr (w1 := wSt cI aS (pset Sb5 3 (f6_put 12 (Sb5 3) v1 p3))) hD rfl
  obtain ⟨Sb7, hSb7⟩ : ∃ z : Pic, z = (pset Sb5 3 (f6_put 12 (Sb5 3) v1 p3)) := ⟨_, rfl⟩
  rw [← hSb7] at hP hD
  have hR := bd_n hSb7 hR
  refine lv_aload_n hx hb dX5_newDish_36 rfl (lv_at hl 1 rfl) ?_
  refine va_get (D := (dC, dI)) (ci := 5) (v := .ref (aS 4)) (C := RX5) (T := TX5) (N := 12) hx hb hts hin5 hown hK hP 0 rfl rfl 4 (by decide) (hw_ hts 5 rfl) (fun _ h9 => h9) rfl dX5_newDish_37 ?_
  refine lv_iload hx hb dX5_newDish_40 (lv_at hl 0 rfl) ?_
  refine lv_iload hx hb dX5_newDish_42 (lv_at hl 5 rfl) ?_
  have hF := va_free (wc := [((aS 4), .inl (cI, 12, .inl (Sb7 4)))]) hD hS hA [4] rfl
  refine va_callv (va_runSN (As := [.ref (aS 4), .int v1, .int p4]) (rest := []) ⟨hx, hb, hml, hown, hts⟩ (met_X6_put l dC dI cI cZ cS (aS 4) 12 (by decide) (Sb7 4) H3.size v1 p4) ⟨va_cnB 3 hts ggX5_newDish_X6_put rfl rfl rfl (hN_0 hN) (hw_ hts 9 rfl) (by decide +kernel) ⟨Nat.le_of_ble_eq_true rfl, Nat.le_of_ble_eq_true rfl⟩, (hw_ hts 8 rfl), trivial⟩ (pS (wc := [((aS 4), .inl (cI, 12, .inl (Sb7 4)))]) hK hP hD hN [4] rfl (by decide)) rfl rfl hl.1 rfl (lv_room (Nat.le_of_ble_eq_true rfl)) dX5_newDish_44 ⟨Nat.zero_le _, Nat.zero_le _⟩) hS (fun q _ h => hF q h) hF (fun  u8 t H4 locs ht hvm hw hB hz1 hk1 hS => ?_)
  try dsimp only at hw hB
  rw [ht] at hB
  subst hw
  have hP := wrk (w2 := wSt cI aS (pset Sb7 4 (f6_put 12 (Sb7 4) v1 p4))) hP hD [4] rfl (by decide) hk1 hB rfl rfl
  have hD := D_addr (w1 := wSt cI aS (pset Sb7 4 (f6_put 12 (Sb7 4) v1 p4))) hD rfl
  obtain ⟨Sb9, hSb9⟩ : ∃ z : Pic, z = (pset Sb7 4 (f6_put 12 (Sb7 4) v1 p4)) := ⟨_, rfl⟩
  rw [← hSb9] at hP hD
  have hR := bd_n hSb9 hR
  refine lv_aload_n hx hb dX5_newDish_47 rfl (lv_at hl 1 rfl) ?_
  refine va_get (D := (dC, dI)) (ci := 5) (v := .ref (aS 5)) (C := RX5) (T := TX5) (N := 12) hx hb hts hin5 hown hK hP 0 rfl rfl 5 (by decide) (hw_ hts 6 rfl) (fun _ h9 => h9) rfl dX5_newDish_48 ?_
  refine lv_iload hx hb dX5_newDish_51 (lv_at hl 0 rfl) ?_
  refine lv_iconst (v := (-1 : Int32)) hx hb dX5_newDish_53 (by decide) ?_
  have hF := va_free (wc := [((aS 5), .inl (cI, 12, .inl (Sb9 5)))]) hD hS hA [5] rfl
  refine va_callv (va_runSN (As := [.ref (aS 5), .int v1, .int (-1 : Int32)]) (rest := []) ⟨hx, hb, hml, hown, hts⟩ (met_X6_put l dC dI cI cZ cS (aS 5) 12 (by decide) (Sb9 5) H4.size v1 (-1 : Int32)) ⟨va_cnB 3 hts ggX5_newDish_X6_put rfl rfl rfl (hN_0 hN) (hw_ hts 9 rfl) (by decide +kernel) ⟨Nat.le_of_ble_eq_true rfl, Nat.le_of_ble_eq_true rfl⟩, (hw_ hts 8 rfl), trivial⟩ (pS (wc := [((aS 5), .inl (cI, 12, .inl (Sb9 5)))]) hK hP hD hN [5] rfl (by decide)) rfl rfl hl.1 rfl (lv_room (Nat.le_of_ble_eq_true rfl)) dX5_newDish_54 ⟨Nat.zero_le _, Nat.zero_le _⟩) hS (fun q _ h => hF q h) hF (fun  u10 t H5 locs ht hvm hw hB hz1 hk1 hS => ?_)
  try dsimp only at hw hB
  rw [ht] at hB
  subst hw
  have hP := wrk (w2 := wSt cI aS (pset Sb9 5 (f6_put 12 (Sb9 5) v1 (-1 : Int32)))) hP hD [5] rfl (by decide) hk1 hB rfl rfl
  have hD := D_addr (w1 := wSt cI aS (pset Sb9 5 (f6_put 12 (Sb9 5) v1 (-1 : Int32)))) hD rfl
  obtain ⟨Sb11, hSb11⟩ : ∃ z : Pic, z = (pset Sb9 5 (f6_put 12 (Sb9 5) v1 (-1 : Int32))) := ⟨_, rfl⟩
  rw [← hSb11] at hP hD
  have hR := bd_n hSb11 hR
  refine lv_aload_n hx hb dX5_newDish_57 rfl (lv_at hl 1 rfl) ?_
  refine va_get (D := (dC, dI)) (ci := 5) (v := .ref (aS 6)) (C := RX5) (T := TX5) (N := 12) hx hb hts hin5 hown hK hP 0 rfl rfl 6 (by decide) (hw_ hts 7 rfl) (fun _ h9 => h9) rfl dX5_newDish_58 ?_
  refine lv_iload hx hb dX5_newDish_61 (lv_at hl 0 rfl) ?_
  refine lv_iconst (v := (0 : Int32)) hx hb dX5_newDish_63 (by decide) ?_
  have hF := va_free (wc := [((aS 6), .inl (cI, 12, .inl (Sb11 6)))]) hD hS hA [6] rfl
  refine va_callv (va_runSN (As := [.ref (aS 6), .int v1, .int (0 : Int32)]) (rest := []) ⟨hx, hb, hml, hown, hts⟩ (met_X6_put l dC dI cI cZ cS (aS 6) 12 (by decide) (Sb11 6) H5.size v1 (0 : Int32)) ⟨va_cnB 3 hts ggX5_newDish_X6_put rfl rfl rfl (hN_0 hN) (hw_ hts 9 rfl) (by decide +kernel) ⟨Nat.le_of_ble_eq_true rfl, Nat.le_of_ble_eq_true rfl⟩, (hw_ hts 8 rfl), trivial⟩ (pS (wc := [((aS 6), .inl (cI, 12, .inl (Sb11 6)))]) hK hP hD hN [6] rfl (by decide)) rfl rfl hl.1 rfl (lv_room (Nat.le_of_ble_eq_true rfl)) dX5_newDish_64 ⟨Nat.zero_le _, Nat.zero_le _⟩) hS (fun q _ h => hF q h) hF (fun  u12 t H6 locs ht hvm hw hB hz1 hk1 hS => ?_)
  try dsimp only at hw hB
  rw [ht] at hB
  subst hw
  have hP := wrk (w2 := wSt cI aS (pset Sb11 6 (f6_put 12 (Sb11 6) v1 (0 : Int32)))) hP hD [6] rfl (by decide) hk1 hB rfl rfl
  have hD := D_addr (w1 := wSt cI aS (pset Sb11 6 (f6_put 12 (Sb11 6) v1 (0 : Int32)))) hD rfl
  obtain ⟨Sb13, hSb13⟩ : ∃ z : Pic, z = (pset Sb11 6 (f6_put 12 (Sb11 6) v1 (0 : Int32))) := ⟨_, rfl⟩
  rw [← hSb13] at hP hD
  have hR := bd_n hSb13 hR
  refine lv_aload_n hx hb dX5_newDish_67 rfl (lv_at hl 1 rfl) ?_
  refine lv_dup hx hb dX5_newDish_68 rfl ?_
  refine va_get (D := (dC, dI)) (ci := 5) (v := .int ((Sb13 0) 0)) (C := RX5) (T := TX5) (N := 12) hx hb hts hin5 hown hK hP 0 rfl rfl 0 (by decide) (hw_ hts 1 rfl) (fun _ h9 => h9) rfl dX5_newDish_69 ?_
  refine lv_iconst (v := (1 : Int32)) hx hb dX5_newDish_72 (by decide) ?_
  refine lv_iadd hx hb dX5_newDish_73 ?_
  refine va_put (D := (dC, dI)) (ci := 5) (v := .int (((Sb13 0) 0) + (1 : Int32))) (ty := .int) (C := RX5) (T := TX5) (N := 12) hx hb hts hin5 tyX5 tyX5_ok nmX5 hown hK hP hD hS 0 rfl rfl 0 (by decide) (hw_ hts 1 rfl) (fun _ h9 => h9) rfl (by decide +kernel) rfl rfl (Nat.le_of_ble_eq_true rfl) dX5_newDish_74 (fun H7 locs hP hD hS => ?_)
  have hP : va_P (dC, dI) vwCl (wSt cI aS (pset Sb13 0 (fun _ => (((Sb13 0) 0) + (1 : Int32))))) H7 := hP
  have hD : va_D A (wSt cI aS (pset Sb13 0 (fun _ => (((Sb13 0) 0) + (1 : Int32))))) := hD
  obtain ⟨Sb14, hSb14⟩ : ∃ z : Pic, z = (pset Sb13 0 (fun _ => (((Sb13 0) 0) + (1 : Int32)))) := ⟨_, rfl⟩
  rw [← hSb14] at hP hD
  have hR := bd_n hSb14 hR
  refine lv_iload hx hb dX5_newDish_77 (lv_at hl 0 rfl) ?_
  exact W.iret (v := v1) hx hb hr (fun t ht hW => ⟨⟨v1, Sb14, rfl, hR, P_at ht hP⟩, hS.F ht⟩) hS.2.2 dX5_newDish_79
abbrev rm_X5_newGuest : Room := { frames := 1, cells := 0, slots := 0, locals := 22 }
abbrev q_X5_newGuest (dC : Nat → ClassId) (dI : Nat → Nat → Nat) (cI cZ cS : ClassId) (aS : Nat → Nat)  (res : Int32 × Pic) (A : Nat → Prop) : Array Value → State → Outcome → State → Prop := va_Qi (fun (r : Int32) (u : Pic) => (r, u) = res) (fun u t => va_P (dC, dI) vwCl (wSt cI aS u) t.heap) A
set_option maxHeartbeats 4000000 in
set_option maxRecDepth 100000 in
theorem met_X5_newGuest (l : Launch) (dC : Nat → ClassId) (dI : Nat → Nat → Nat) (cI cZ cS : ClassId) (aS : Nat → Nat) (S : Pic) (sz : Nat)  : Met l yX5_newGuest wsX5_newGuest rm_X5_newGuest (va_Pc [.ref (aS 0)] (pW (dC, dI) (tyS cI cZ cS) (wSt cI aS S) sz)) (q_X5_newGuest dC dI cI cZ cS aS (f5_newGuest S) (va_A (wSt cI aS S) sz)) 0 0 (va_A (wSt cI aS S) sz) := by
  refine Met.ofW (cc := cX5_newGuest) (maxL := 2) (ret := (some .int)) (by decide) rfl ?_
  intro p e s m args below meth c s₁ B hml hv
  obtain ⟨rfl, hsz, hP, hK, hD0, hN⟩ := hv
  have hx := B.exec
  have hb := B.bytes
  have hr := B.returns
  have hts := atoms_spec (ws := wsX5_newGuest) B.pre
  have hown : s.vm.findClass RX5 = some m.cls := findClass_of_methodNamed B.named
  have hlocks := B.notSynchronized
  subst hsz
  have hD := hD0.self (sz := s.heap.size)
  generalize hAe : va_A (wSt cI aS S) s.heap.size = A at hD ⊢
  have hA : ∀ q : Nat, s.heap.size ≤ q → A q := fun q h => by rw [← hAe]; exact Or.inr h
  have hS : va_S A s.heap s.heap [] := va_S.rf
  have hP : va_P (dC, dI) vwCl (wSt cI aS S) s.heap := hP
  generalize hR : f5_newGuest S = res
  rw [f5_newGuest] at hR
  have hin5 : ∀ w ∈ wsX50, w ∈ wsX5_newGuest := by decide +kernel
  have hl := lv_entry ([.ref (aS 0)]) (n := 2) (Nat.le_of_ble_eq_true rfl)
  rw [lg_entry_eq]
  generalize (lg_sl ([.ref (aS 0)]) ++ List.replicate (2 - (lg_sl ([.ref (aS 0)])).length) Slot.unset).toArray = ls at hl ⊢
  have hl : lv_has ls 2 [(0, .ref (aS 0))] := hl
  refine lv_aload_n hx hb dX5_newGuest_0 rfl (lv_at hl 0 rfl) ?_
  refine va_get (D := (dC, dI)) (ci := 5) (v := .int ((S 7) 0)) (C := RX5) (T := TX5) (N := 12) hx hb hts hin5 hown hK hP 0 rfl rfl 7 (by decide) (hw_ hts 1 rfl) (fun _ h9 => h9) rfl dX5_newGuest_1 ?_
  refine lv_topi (fun v1 hv1 => ?_)
  have hR := bd_n hv1 hR
  refine lv_istore_n (lv' := [(1, .int v1), (0, .ref (aS 0))]) hx hb dX5_newGuest_4 rfl hl (by decide) rfl (fun ls hl => ?_)
  refine lv_aload_n hx hb dX5_newGuest_5 rfl (lv_at hl 1 rfl) ?_
  refine va_get (D := (dC, dI)) (ci := 5) (v := .ref (aS 8)) (C := RX5) (T := TX5) (N := 12) hx hb hts hin5 hown hK hP 0 rfl rfl 8 (by decide) (hw_ hts 2 rfl) (fun _ h9 => h9) rfl dX5_newGuest_6 ?_
  refine lv_iload_n hx hb dX5_newGuest_9 rfl (lv_at hl 0 rfl) ?_
  refine lv_bipush (v := (127 : Int32)) hx hb dX5_newGuest_10 (by decide) ?_
  have hF := va_free (wc := [((aS 8), .inl (cI, 6, .inl (S 8)))]) hD hS hA [7] rfl
  refine va_callv (va_runSN (As := [.ref (aS 8), .int v1, .int (127 : Int32)]) (rest := []) ⟨hx, hb, hml, hown, hts⟩ (met_X6_put l dC dI cI cZ cS (aS 8) 6 (by decide) (S 8) s.heap.size v1 (127 : Int32)) ⟨va_cnB 3 hts ggX5_newGuest_X6_put rfl rfl rfl (hN_0 hN) (hw_ hts 5 rfl) (by decide +kernel) ⟨Nat.le_of_ble_eq_true rfl, Nat.le_of_ble_eq_true rfl⟩, (hw_ hts 4 rfl), trivial⟩ (pS (wc := [((aS 8), .inl (cI, 6, .inl (S 8)))]) hK hP hD hN [7] rfl (by decide)) rfl rfl hl.1 rfl (lv_room (Nat.le_of_ble_eq_true rfl)) dX5_newGuest_12 ⟨Nat.zero_le _, Nat.zero_le _⟩) hS (fun q _ h => hF q h) hF (fun  u2 t H1 locs ht hvm hw hB hz1 hk1 hS => ?_)
  try dsimp only at hw hB
  rw [ht] at hB
  subst hw
  have hP := wrk (w2 := wSt cI aS (pset S 8 (f6_put 6 (S 8) v1 (127 : Int32)))) hP hD [7] rfl (by decide) hk1 hB rfl rfl
  have hD := D_addr (w1 := wSt cI aS (pset S 8 (f6_put 6 (S 8) v1 (127 : Int32)))) hD rfl
  obtain ⟨Sb3, hSb3⟩ : ∃ z : Pic, z = (pset S 8 (f6_put 6 (S 8) v1 (127 : Int32))) := ⟨_, rfl⟩
  rw [← hSb3] at hP hD
  have hR := bd_n hSb3 hR
  refine lv_aload_n hx hb dX5_newGuest_15 rfl (lv_at hl 1 rfl) ?_
  refine va_get (D := (dC, dI)) (ci := 5) (v := .ref (aS 9)) (C := RX5) (T := TX5) (N := 12) hx hb hts hin5 hown hK hP 0 rfl rfl 9 (by decide) (hw_ hts 3 rfl) (fun _ h9 => h9) rfl dX5_newGuest_16 ?_
  refine lv_iload_n hx hb dX5_newGuest_19 rfl (lv_at hl 0 rfl) ?_
  refine lv_iconst (v := (0 : Int32)) hx hb dX5_newGuest_20 (by decide) ?_
  have hF := va_free (wc := [((aS 9), .inl (cI, 6, .inl (Sb3 9)))]) hD hS hA [8] rfl
  refine va_callv (va_runSN (As := [.ref (aS 9), .int v1, .int (0 : Int32)]) (rest := []) ⟨hx, hb, hml, hown, hts⟩ (met_X6_put l dC dI cI cZ cS (aS 9) 6 (by decide) (Sb3 9) H1.size v1 (0 : Int32)) ⟨va_cnB 3 hts ggX5_newGuest_X6_put rfl rfl rfl (hN_0 hN) (hw_ hts 5 rfl) (by decide +kernel) ⟨Nat.le_of_ble_eq_true rfl, Nat.le_of_ble_eq_true rfl⟩, (hw_ hts 4 rfl), trivial⟩ (pS (wc := [((aS 9), .inl (cI, 6, .inl (Sb3 9)))]) hK hP hD hN [8] rfl (by decide)) rfl rfl hl.1 rfl (lv_room (Nat.le_of_ble_eq_true rfl)) dX5_newGuest_21 ⟨Nat.zero_le _, Nat.zero_le _⟩) hS (fun q _ h => hF q h) hF (fun  u4 t H2 locs ht hvm hw hB hz1 hk1 hS => ?_)
  try dsimp only at hw hB
  rw [ht] at hB
  subst hw
  have hP := wrk (w2 := wSt cI aS (pset Sb3 9 (f6_put 6 (Sb3 9) v1 (0 : Int32)))) hP hD [8] rfl (by decide) hk1 hB rfl rfl
  have hD := D_addr (w1 := wSt cI aS (pset Sb3 9 (f6_put 6 (Sb3 9) v1 (0 : Int32)))) hD rfl
  obtain ⟨Sb5, hSb5⟩ : ∃ z : Pic, z = (pset Sb3 9 (f6_put 6 (Sb3 9) v1 (0 : Int32))) := ⟨_, rfl⟩
  rw [← hSb5] at hP hD
  have hR := bd_n hSb5 hR
  refine lv_aload_n hx hb dX5_newGuest_24 rfl (lv_at hl 1 rfl) ?_
  refine lv_dup hx hb dX5_newGuest_25 rfl ?_
  refine va_get (D := (dC, dI)) (ci := 5) (v := .int ((Sb5 7) 0)) (C := RX5) (T := TX5) (N := 12) hx hb hts hin5 hown hK hP 0 rfl rfl 7 (by decide) (hw_ hts 1 rfl) (fun _ h9 => h9) rfl dX5_newGuest_26 ?_
  refine lv_iconst (v := (1 : Int32)) hx hb dX5_newGuest_29 (by decide) ?_
  refine lv_iadd hx hb dX5_newGuest_30 ?_
  refine va_put (D := (dC, dI)) (ci := 5) (v := .int (((Sb5 7) 0) + (1 : Int32))) (ty := .int) (C := RX5) (T := TX5) (N := 12) hx hb hts hin5 tyX5 tyX5_ok nmX5 hown hK hP hD hS 0 rfl rfl 7 (by decide) (hw_ hts 1 rfl) (fun _ h9 => h9) rfl (by decide +kernel) rfl rfl (Nat.le_of_ble_eq_true rfl) dX5_newGuest_31 (fun H3 locs hP hD hS => ?_)
  have hP : va_P (dC, dI) vwCl (wSt cI aS (pset Sb5 7 (fun _ => (((Sb5 7) 0) + (1 : Int32))))) H3 := hP
  have hD : va_D A (wSt cI aS (pset Sb5 7 (fun _ => (((Sb5 7) 0) + (1 : Int32))))) := hD
  obtain ⟨Sb6, hSb6⟩ : ∃ z : Pic, z = (pset Sb5 7 (fun _ => (((Sb5 7) 0) + (1 : Int32)))) := ⟨_, rfl⟩
  rw [← hSb6] at hP hD
  have hR := bd_n hSb6 hR
  refine lv_iload_n hx hb dX5_newGuest_34 rfl (lv_at hl 0 rfl) ?_
  exact W.iret (v := v1) hx hb hr (fun t ht hW => ⟨⟨v1, Sb6, rfl, hR, P_at ht hP⟩, hS.F ht⟩) hS.2.2 dX5_newGuest_35
abbrev rm_X5_exchangeMeals : Room := { frames := 1, cells := 0, slots := 0, locals := 22 }
abbrev q_X5_exchangeMeals (dC : Nat → ClassId) (dI : Nat → Nat → Nat) (cI cZ cS : ClassId) (aS : Nat → Nat)  (res : Pic) (A : Nat → Prop) : Array Value → State → Outcome → State → Prop := va_Qv (fun (u : Pic) => u = res) (fun u t => va_P (dC, dI) vwCl (wSt cI aS u) t.heap) A
set_option maxHeartbeats 4000000 in
set_option maxRecDepth 100000 in
theorem met_X5_exchangeMeals (l : Launch) (dC : Nat → ClassId) (dI : Nat → Nat → Nat) (cI cZ cS : ClassId) (aS : Nat → Nat) (S : Pic) (sz : Nat) (p1 : Int32) (p2 : Int32) : Met l yX5_exchangeMeals wsX5_exchangeMeals rm_X5_exchangeMeals (va_Pc [.ref (aS 0), .int p1, .int p2] (pW (dC, dI) (tyS cI cZ cS) (wSt cI aS S) sz)) (q_X5_exchangeMeals dC dI cI cZ cS aS (f5_exchangeMeals S p1 p2) (va_A (wSt cI aS S) sz)) 0 0 (va_A (wSt cI aS S) sz) := by
  refine Met.ofW (cc := cX5_exchangeMeals) (maxL := 5) (ret := none) (by decide) rfl ?_
  intro p e s m args below meth c s₁ B hml hv
  obtain ⟨rfl, hsz, hP, hK, hD0, hN⟩ := hv
  have hx := B.exec
  have hb := B.bytes
  have hr := B.returns
  have hts := atoms_spec (ws := wsX5_exchangeMeals) B.pre
  have hown : s.vm.findClass RX5 = some m.cls := findClass_of_methodNamed B.named
  have hlocks := B.notSynchronized
  subst hsz
  have hD := hD0.self (sz := s.heap.size)
  generalize hAe : va_A (wSt cI aS S) s.heap.size = A at hD ⊢
  have hA : ∀ q : Nat, s.heap.size ≤ q → A q := fun q h => by rw [← hAe]; exact Or.inr h
  have hS : va_S A s.heap s.heap [] := va_S.rf
  have hP : va_P (dC, dI) vwCl (wSt cI aS S) s.heap := hP
  generalize hR : f5_exchangeMeals S p1 p2 = res
  rw [f5_exchangeMeals] at hR
  have hin5 : ∀ w ∈ wsX50, w ∈ wsX5_exchangeMeals := by decide +kernel
  have hl := lv_entry ([.ref (aS 0), .int p1, .int p2]) (n := 5) (Nat.le_of_ble_eq_true rfl)
  rw [lg_entry_eq]
  generalize (lg_sl ([.ref (aS 0), .int p1, .int p2]) ++ List.replicate (5 - (lg_sl ([.ref (aS 0), .int p1, .int p2])).length) Slot.unset).toArray = ls at hl ⊢
  have hl : lv_has ls 5 [(0, .ref (aS 0)), (1, .int p1), (2, .int p2)] := hl
  refine lv_iconst (v := (0 : Int32)) hx hb dX5_exchangeMeals_0 (by decide) ?_
  refine lv_istore_n (lv' := [(3, .int (0 : Int32)), (0, .ref (aS 0)), (1, .int p1), (2, .int p2)]) hx hb dX5_exchangeMeals_1 rfl hl (by decide) rfl (fun ls hl => ?_)
  have LOOP2 : ∀ (k : Pic → Pic), (∀ (S_2 : Pic) (H1 : Heap) (locs : List Loc), k S_2 = res → va_P (dC, dI) vwCl (wSt cI aS S_2) H1 → va_D A (wSt cI aS S_2) → va_S A s.heap H1 locs → ∀ (ls : Array Slot), lv_has ls 5 [] → W p l e (headSpec wsX5_exchangeMeals rm_X5_exchangeMeals).room s m ([.ref (aS 0), .int p1, .int p2] : List Value).toArray below meth c H1 locs 0 0 (MQ below (q_X5_exchangeMeals dC dI cI cZ cS aS res A) ([.ref (aS 0), .int p1, .int p2] : List Value).toArray s 0 0 A) (F0 m 65 ls [])) → ∀ (nf : Nat) (x3_2 : Int32) (S_2 : Pic) (H1 : Heap) (locs : List Loc), ((3 : Int32)).toInt - (x3_2).toInt ≤ (nf : Int) → f5_exchangeMeals_L2 p1 p2 nf x3_2 S_2 k = res → va_P (dC, dI) vwCl (wSt cI aS S_2) H1 → va_D A (wSt cI aS S_2) → va_S A s.heap H1 locs → ∀ (ls : Array Slot), lv_has ls 5 [(3, .int x3_2), (0, .ref (aS 0)), (1, .int p1), (2, .int p2)] → W p l e (headSpec wsX5_exchangeMeals rm_X5_exchangeMeals).room s m ([.ref (aS 0), .int p1, .int p2] : List Value).toArray below meth c H1 locs 0 0 (MQ below (q_X5_exchangeMeals dC dI cI cZ cS aS res A) ([.ref (aS 0), .int p1, .int p2] : List Value).toArray s 0 0 A) (F0 m 2 ls []) := by
    intro k hk nf
    induction nf with
    | zero =>
      intro x3_2 S_2 H1 locs hfu hR hP hD hS ls hl
      rw [f5_exchangeMeals_L2] at hR
      refine lv_iload_n hx hb dX5_exchangeMeals_2 rfl (lv_at hl 0 rfl) ?_
      refine lv_iconst (v := (3 : Int32)) hx hb dX5_exchangeMeals_3 (by decide) ?_
      refine lv_icmp_ge (tgt := 65) hx hb dX5_exchangeMeals_4 (by decide) (fun c_1 => ?_) (fun c_1 => ?_)
      · skip
        exact hk S_2 _ _  hR hP hD hS ls (lv_sub hl [] rfl)
      · exact (fuel0 hfu c_1).elim
    | succ nf ih =>
      intro x3_2 S_2 H1 locs hfu hR hP hD hS ls hl
      rw [f5_exchangeMeals_L2] at hR
      refine lv_iload_n hx hb dX5_exchangeMeals_2 rfl (lv_at hl 0 rfl) ?_
      refine lv_iconst (v := (3 : Int32)) hx hb dX5_exchangeMeals_3 (by decide) ?_
      refine lv_icmp_ge (tgt := 65) hx hb dX5_exchangeMeals_4 (by decide) (fun c_2 => ?_) (fun c_2 => ?_)
      · rw [if_pos c_2] at hR
        exact hk S_2 _ _  hR hP hD hS ls (lv_sub hl [] rfl)
      · rw [if_neg c_2] at hR
        have hfu := fuelS hfu c_2
        refine lv_aload_n hx hb dX5_exchangeMeals_7 rfl (lv_at hl 1 rfl) ?_
        refine va_get (D := (dC, dI)) (ci := 5) (v := .ref (aS 11)) (C := RX5) (T := TX5) (N := 12) hx hb hts hin5 hown hK hP 0 rfl rfl 11 (by decide) (hw_ hts 1 rfl) (fun _ h9 => h9) rfl dX5_exchangeMeals_8 ?_
        refine lv_iload_n hx hb dX5_exchangeMeals_11 rfl (lv_at hl 2 rfl) ?_
        refine lv_iload_n hx hb dX5_exchangeMeals_12 rfl (lv_at hl 0 rfl) ?_
        refine va_calli (va_runSN (As := [.int p1, .int x3_2]) (rest := [.ref (aS 11)]) ⟨hx, hb, hml, hown, hts⟩ (met_X6_cellOf l dC dI cI cZ cS H1.size p1 x3_2) ⟨va_cnB 2 hts ggX5_exchangeMeals_X6_cellOf rfl rfl rfl (hN_10 hN) (hw_ hts 3 rfl) (by decide +kernel) ⟨Nat.le_of_ble_eq_true rfl, Nat.le_of_ble_eq_true rfl⟩, (hw_ hts 2 rfl), trivial⟩ (pS (wc := []) hK hP hD hN [] rfl (by decide)) rfl rfl hl.1 rfl (lv_room (Nat.le_of_ble_eq_true rfl)) dX5_exchangeMeals_13 ⟨Nat.zero_le _, Nat.zero_le _⟩) hS (fun q _ h => a0_in hS hA q h) (a0_in hS hA) (fun r3 u t H2 locs ht hvm hw hB hz1 hk1 hS => ?_)
        subst hw
        have hP := rdk hP hk1
        refine va_calli (va_runSN (As := [.ref (aS 11), .int (f6_cellOf p1 x3_2)]) (rest := []) ⟨hx, hb, hml, hown, hts⟩ (met_X6_at l dC dI cI cZ cS (aS 11) 84 (by decide) (S_2 11) H2.size (f6_cellOf p1 x3_2)) ⟨va_cnB 2 hts ggX5_exchangeMeals_X6_at rfl rfl rfl (hN_1 hN) (hw_ hts 3 rfl) (by decide +kernel) ⟨Nat.le_of_ble_eq_true rfl, Nat.le_of_ble_eq_true rfl⟩, (hw_ hts 5 rfl), trivial⟩ (pS (wc := [((aS 11), .inl (cI, 84, .inl (S_2 11)))]) hK hP hD hN [10] rfl (by decide)) rfl rfl hl.1 rfl (lv_room (Nat.le_of_ble_eq_true rfl)) dX5_exchangeMeals_16 ⟨Nat.zero_le _, Nat.zero_le _⟩) hS (fun q _ h => a0_in hS hA q h) (a0_in hS hA) (fun r4 u t H3 locs ht hvm hw hB hz1 hk1 hS => ?_)
        subst hw
        have hP := rdk hP hk1
        refine lv_topi (fun v5 hv5 => ?_)
        have hR := bd_n hv5 hR
        refine lv_istore (lv' := [(4, .int v5), (3, .int x3_2), (0, .ref (aS 0)), (1, .int p1), (2, .int p2)]) hx hb dX5_exchangeMeals_19 hl (by decide) rfl (fun ls hl => ?_)
        refine lv_aload_n hx hb dX5_exchangeMeals_21 rfl (lv_at hl 2 rfl) ?_
        refine va_get (D := (dC, dI)) (ci := 5) (v := .ref (aS 11)) (C := RX5) (T := TX5) (N := 12) hx hb hts hin5 hown hK hP 0 rfl rfl 11 (by decide) (hw_ hts 1 rfl) (fun _ h9 => h9) rfl dX5_exchangeMeals_22 ?_
        refine lv_iload_n hx hb dX5_exchangeMeals_25 rfl (lv_at hl 3 rfl) ?_
        refine lv_iload_n hx hb dX5_exchangeMeals_26 rfl (lv_at hl 1 rfl) ?_
        refine va_calli (va_runSN (As := [.int p1, .int x3_2]) (rest := [.ref (aS 11)]) ⟨hx, hb, hml, hown, hts⟩ (met_X6_cellOf l dC dI cI cZ cS H3.size p1 x3_2) ⟨va_cnB 2 hts ggX5_exchangeMeals_X6_cellOf rfl rfl rfl (hN_10 hN) (hw_ hts 3 rfl) (by decide +kernel) ⟨Nat.le_of_ble_eq_true rfl, Nat.le_of_ble_eq_true rfl⟩, (hw_ hts 2 rfl), trivial⟩ (pS (wc := []) hK hP hD hN [] rfl (by decide)) rfl rfl hl.1 rfl (lv_room (Nat.le_of_ble_eq_true rfl)) dX5_exchangeMeals_27 ⟨Nat.zero_le _, Nat.zero_le _⟩) hS (fun q _ h => a0_in hS hA q h) (a0_in hS hA) (fun r6 u t H4 locs ht hvm hw hB hz1 hk1 hS => ?_)
        subst hw
        have hP := rdk hP hk1
        refine lv_aload_n hx hb dX5_exchangeMeals_30 rfl (lv_at hl 2 rfl) ?_
        refine va_get (D := (dC, dI)) (ci := 5) (v := .ref (aS 11)) (C := RX5) (T := TX5) (N := 12) hx hb hts hin5 hown hK hP 0 rfl rfl 11 (by decide) (hw_ hts 1 rfl) (fun _ h9 => h9) rfl dX5_exchangeMeals_31 ?_
        refine lv_iload_n hx hb dX5_exchangeMeals_34 rfl (lv_at hl 4 rfl) ?_
        refine lv_iload_n hx hb dX5_exchangeMeals_35 rfl (lv_at hl 1 rfl) ?_
        refine va_calli (va_runSN (As := [.int p2, .int x3_2]) (rest := [.ref (aS 11), .int (f6_cellOf p1 x3_2), .ref (aS 11)]) ⟨hx, hb, hml, hown, hts⟩ (met_X6_cellOf l dC dI cI cZ cS H4.size p2 x3_2) ⟨va_cnB 2 hts ggX5_exchangeMeals_X6_cellOf rfl rfl rfl (hN_10 hN) (hw_ hts 3 rfl) (by decide +kernel) ⟨Nat.le_of_ble_eq_true rfl, Nat.le_of_ble_eq_true rfl⟩, (hw_ hts 2 rfl), trivial⟩ (pS (wc := []) hK hP hD hN [] rfl (by decide)) rfl rfl hl.1 rfl (lv_room (Nat.le_of_ble_eq_true rfl)) dX5_exchangeMeals_36 ⟨Nat.zero_le _, Nat.zero_le _⟩) hS (fun q _ h => a0_in hS hA q h) (a0_in hS hA) (fun r7 u t H5 locs ht hvm hw hB hz1 hk1 hS => ?_)
        subst hw
        have hP := rdk hP hk1
        refine va_calli (va_runSN (As := [.ref (aS 11), .int (f6_cellOf p2 x3_2)]) (rest := [.int (f6_cellOf p1 x3_2), .ref (aS 11)]) ⟨hx, hb, hml, hown, hts⟩ (met_X6_at l dC dI cI cZ cS (aS 11) 84 (by decide) (S_2 11) H5.size (f6_cellOf p2 x3_2)) ⟨va_cnB 2 hts ggX5_exchangeMeals_X6_at rfl rfl rfl (hN_1 hN) (hw_ hts 3 rfl) (by decide +kernel) ⟨Nat.le_of_ble_eq_true rfl, Nat.le_of_ble_eq_true rfl⟩, (hw_ hts 5 rfl), trivial⟩ (pS (wc := [((aS 11), .inl (cI, 84, .inl (S_2 11)))]) hK hP hD hN [10] rfl (by decide)) rfl rfl hl.1 rfl (lv_room (Nat.le_of_ble_eq_true rfl)) dX5_exchangeMeals_39 ⟨Nat.zero_le _, Nat.zero_le _⟩) hS (fun q _ h => a0_in hS hA q h) (a0_in hS hA) (fun r8 u t H6 locs ht hvm hw hB hz1 hk1 hS => ?_)
        subst hw
        have hP := rdk hP hk1
        have hF := va_free (wc := [((aS 11), .inl (cI, 84, .inl (S_2 11)))]) hD hS hA [10] rfl
        refine va_callv (va_runSN (As := [.ref (aS 11), .int (f6_cellOf p1 x3_2), .int (f6_at 84 (S_2 11) (f6_cellOf p2 x3_2))]) (rest := []) ⟨hx, hb, hml, hown, hts⟩ (met_X6_put l dC dI cI cZ cS (aS 11) 84 (by decide) (S_2 11) H6.size (f6_cellOf p1 x3_2) (f6_at 84 (S_2 11) (f6_cellOf p2 x3_2))) ⟨va_cnB 3 hts ggX5_exchangeMeals_X6_put rfl rfl rfl (hN_0 hN) (hw_ hts 3 rfl) (by decide +kernel) ⟨Nat.le_of_ble_eq_true rfl, Nat.le_of_ble_eq_true rfl⟩, (hw_ hts 7 rfl), trivial⟩ (pS (wc := [((aS 11), .inl (cI, 84, .inl (S_2 11)))]) hK hP hD hN [10] rfl (by decide)) rfl rfl hl.1 rfl (lv_room (Nat.le_of_ble_eq_true rfl)) dX5_exchangeMeals_42 ⟨Nat.zero_le _, Nat.zero_le _⟩) hS (fun q _ h => hF q h) hF (fun  u9 t H7 locs ht hvm hw hB hz1 hk1 hS => ?_)
        try dsimp only at hw hB
        rw [ht] at hB
        subst hw
        have hP := wrk (w2 := wSt cI aS (pset S_2 11 (f6_put 84 (S_2 11) (f6_cellOf p1 x3_2) (f6_at 84 (S_2 11) (f6_cellOf p2 x3_2))))) hP hD [10] rfl (by decide) hk1 hB rfl rfl
        have hD := D_addr (w1 := wSt cI aS (pset S_2 11 (f6_put 84 (S_2 11) (f6_cellOf p1 x3_2) (f6_at 84 (S_2 11) (f6_cellOf p2 x3_2))))) hD rfl
        obtain ⟨Sb10, hSb10⟩ : ∃ z : Pic, z = (pset S_2 11 (f6_put 84 (S_2 11) (f6_cellOf p1 x3_2) (f6_at 84 (S_2 11) (f6_cellOf p2 x3_2)))) := ⟨_, rfl⟩
        rw [← hSb10] at hP hD
        have hR := bd_n hSb10 hR
        refine lv_aload_n hx hb dX5_exchangeMeals_45 rfl (lv_at hl 2 rfl) ?_
        refine va_get (D := (dC, dI)) (ci := 5) (v := .ref (aS 11)) (C := RX5) (T := TX5) (N := 12) hx hb hts hin5 hown hK hP 0 rfl rfl 11 (by decide) (hw_ hts 1 rfl) (fun _ h9 => h9) rfl dX5_exchangeMeals_46 ?_
        refine lv_iload_n hx hb dX5_exchangeMeals_49 rfl (lv_at hl 4 rfl) ?_
        refine lv_iload_n hx hb dX5_exchangeMeals_50 rfl (lv_at hl 1 rfl) ?_
        refine va_calli (va_runSN (As := [.int p2, .int x3_2]) (rest := [.ref (aS 11)]) ⟨hx, hb, hml, hown, hts⟩ (met_X6_cellOf l dC dI cI cZ cS H7.size p2 x3_2) ⟨va_cnB 2 hts ggX5_exchangeMeals_X6_cellOf rfl rfl rfl (hN_10 hN) (hw_ hts 3 rfl) (by decide +kernel) ⟨Nat.le_of_ble_eq_true rfl, Nat.le_of_ble_eq_true rfl⟩, (hw_ hts 2 rfl), trivial⟩ (pS (wc := []) hK hP hD hN [] rfl (by decide)) rfl rfl hl.1 rfl (lv_room (Nat.le_of_ble_eq_true rfl)) dX5_exchangeMeals_51 ⟨Nat.zero_le _, Nat.zero_le _⟩) hS (fun q _ h => a0_in hS hA q h) (a0_in hS hA) (fun r11 u t H8 locs ht hvm hw hB hz1 hk1 hS => ?_)
        subst hw
        have hP := rdk hP hk1
        refine lv_iload hx hb dX5_exchangeMeals_54 (lv_at hl 0 rfl) ?_
        have hF := va_free (wc := [((aS 11), .inl (cI, 84, .inl (Sb10 11)))]) hD hS hA [10] rfl
        refine va_callv (va_runSN (As := [.ref (aS 11), .int (f6_cellOf p2 x3_2), .int v5]) (rest := []) ⟨hx, hb, hml, hown, hts⟩ (met_X6_put l dC dI cI cZ cS (aS 11) 84 (by decide) (Sb10 11) H8.size (f6_cellOf p2 x3_2) v5) ⟨va_cnB 3 hts ggX5_exchangeMeals_X6_put rfl rfl rfl (hN_0 hN) (hw_ hts 3 rfl) (by decide +kernel) ⟨Nat.le_of_ble_eq_true rfl, Nat.le_of_ble_eq_true rfl⟩, (hw_ hts 7 rfl), trivial⟩ (pS (wc := [((aS 11), .inl (cI, 84, .inl (Sb10 11)))]) hK hP hD hN [10] rfl (by decide)) rfl rfl hl.1 rfl (lv_room (Nat.le_of_ble_eq_true rfl)) dX5_exchangeMeals_56 ⟨Nat.zero_le _, Nat.zero_le _⟩) hS (fun q _ h => hF q h) hF (fun  u12 t H9 locs ht hvm hw hB hz1 hk1 hS => ?_)
        try dsimp only at hw hB
        rw [ht] at hB
        subst hw
        have hP := wrk (w2 := wSt cI aS (pset Sb10 11 (f6_put 84 (Sb10 11) (f6_cellOf p2 x3_2) v5))) hP hD [10] rfl (by decide) hk1 hB rfl rfl
        have hD := D_addr (w1 := wSt cI aS (pset Sb10 11 (f6_put 84 (Sb10 11) (f6_cellOf p2 x3_2) v5))) hD rfl
        obtain ⟨Sb13, hSb13⟩ : ∃ z : Pic, z = (pset Sb10 11 (f6_put 84 (Sb10 11) (f6_cellOf p2 x3_2) v5)) := ⟨_, rfl⟩
        rw [← hSb13] at hP hD
        have hR := bd_n hSb13 hR
        refine lv_iinc (v := (x3_2 + 1)) (lv' := [(3, .int (x3_2 + 1)), (4, .int v5), (0, .ref (aS 0)), (1, .int p1), (2, .int p2)]) hx hb dX5_exchangeMeals_59 hl (k := 1) rfl rfl (by decide) rfl (fun ls hl => ?_)
        refine lv_goto (tgt := 2) hx hb dX5_exchangeMeals_62 (by decide) ?_
        exact ih (x3_2 + 1) Sb13 _ _ hfu hR hP hD hS ls (lv_sub hl [0, 2, 3, 4] rfl)
  refine LOOP2 (fun S_2 => S_2) (fun S_2 H1 locs hR hP hD hS ls hl => ?_) 3 (0 : Int32) S _ _ (by decide) hR hP hD hS ls (lv_sub hl [0, 1, 2, 3] rfl)
  try dsimp only at hR
  exact W.vret hx hb hr (fun t ht hW => ⟨⟨S_2, rfl, hR, P_at ht hP⟩, hS.F ht⟩) hS.2.2 dX5_exchangeMeals_65
abbrev rm_X5_copyFrom : Room := { frames := 2, cells := 0, slots := 0, locals := 47 }
abbrev q_X5_copyFrom (dC : Nat → ClassId) (dI : Nat → Nat → Nat) (cI cZ cS : ClassId) (aS : Nat → Nat) (aS1 : Nat → Nat) (S1 : Pic) (res : Pic) (A : Nat → Prop) : Array Value → State → Outcome → State → Prop := va_Qv (fun (u : Pic) => u = res) (fun u t => va_P (dC, dI) vwCl (wSt cI aS u ++ (wSt cI aS1 S1)) t.heap) A
set_option maxHeartbeats 4000000 in
set_option maxRecDepth 100000 in
theorem met_X5_copyFrom (l : Launch) (dC : Nat → ClassId) (dI : Nat → Nat → Nat) (cI cZ cS : ClassId) (aS : Nat → Nat) (aS1 : Nat → Nat) (S : Pic) (S1 : Pic) (sz : Nat)  : Met l yX5_copyFrom wsX5_copyFrom rm_X5_copyFrom (va_Pc [.ref (aS 0), .ref (aS1 0)] (pW (dC, dI) (tyS cI cZ cS) (wSt cI aS S ++ (wSt cI aS1 S1)) sz)) (q_X5_copyFrom dC dI cI cZ cS aS aS1 S1 (f5_copyFrom S S1) (va_A (wSt cI aS S ++ (wSt cI aS1 S1)) sz)) 0 0 (va_A (wSt cI aS S ++ (wSt cI aS1 S1)) sz) := by
  refine Met.ofW (cc := cX5_copyFrom) (maxL := 2) (ret := none) (by decide) rfl ?_
  intro p e s m args below meth c s₁ B hml hv
  obtain ⟨rfl, hsz, hP, hK, hD0, hN⟩ := hv
  have hx := B.exec
  have hb := B.bytes
  have hr := B.returns
  have hts := atoms_spec (ws := wsX5_copyFrom) B.pre
  have hown : s.vm.findClass RX5 = some m.cls := findClass_of_methodNamed B.named
  have hlocks := B.notSynchronized
  subst hsz
  have hD := hD0.self (sz := s.heap.size)
  generalize hAe : va_A (wSt cI aS S ++ (wSt cI aS1 S1)) s.heap.size = A at hD ⊢
  have hA : ∀ q : Nat, s.heap.size ≤ q → A q := fun q h => by rw [← hAe]; exact Or.inr h
  have hS : va_S A s.heap s.heap [] := va_S.rf
  have hP : va_P (dC, dI) vwCl (wSt cI aS S ++ (wSt cI aS1 S1)) s.heap := hP
  generalize hR : f5_copyFrom S S1 = res
  rw [f5_copyFrom] at hR
  have hin5 : ∀ w ∈ wsX50, w ∈ wsX5_copyFrom := by decide +kernel
  have hl := lv_entry ([.ref (aS 0), .ref (aS1 0)]) (n := 2) (Nat.le_of_ble_eq_true rfl)
  rw [lg_entry_eq]
  generalize (lg_sl ([.ref (aS 0), .ref (aS1 0)]) ++ List.replicate (2 - (lg_sl ([.ref (aS 0), .ref (aS1 0)])).length) Slot.unset).toArray = ls at hl ⊢
  have hl : lv_has ls 2 [(0, .ref (aS 0)), (1, .ref (aS1 0))] := hl
  refine lv_aload_n hx hb dX5_copyFrom_0 rfl (lv_at hl 0 rfl) ?_
  refine lv_aload_n hx hb dX5_copyFrom_1 rfl (lv_at hl 1 rfl) ?_
  refine va_get (D := (dC, dI)) (ci := 5) (v := .int ((S1 0) 0)) (C := RX5) (T := TX5) (N := 12) hx hb hts hin5 hown hK hP 11 rfl rfl 0 (by decide) (hw_ hts 1 rfl) (fun _ h9 => h9) rfl dX5_copyFrom_2 ?_
  refine va_put (D := (dC, dI)) (ci := 5) (v := .int ((S1 0) 0)) (ty := .int) (C := RX5) (T := TX5) (N := 12) hx hb hts hin5 tyX5 tyX5_ok nmX5 hown hK hP hD hS 0 rfl rfl 0 (by decide) (hw_ hts 1 rfl) (fun _ h9 => h9) rfl (by decide +kernel) rfl rfl (Nat.le_of_ble_eq_true rfl) dX5_copyFrom_5 (fun H1 locs hP hD hS => ?_)
  have hP : va_P (dC, dI) vwCl (wSt cI aS (pset S 0 (fun _ => ((S1 0) 0))) ++ (wSt cI aS1 S1)) H1 := hP
  have hD : va_D A (wSt cI aS (pset S 0 (fun _ => ((S1 0) 0))) ++ (wSt cI aS1 S1)) := hD
  obtain ⟨Sb1, hSb1⟩ : ∃ z : Pic, z = (pset S 0 (fun _ => ((S1 0) 0))) := ⟨_, rfl⟩
  rw [← hSb1] at hP hD
  have hR := bd_n hSb1 hR
  refine lv_aload_n hx hb dX5_copyFrom_8 rfl (lv_at hl 1 rfl) ?_
  refine va_get (D := (dC, dI)) (ci := 5) (v := .ref (aS1 1)) (C := RX5) (T := TX5) (N := 12) hx hb hts hin5 hown hK hP 11 rfl rfl 1 (by decide) (hw_ hts 2 rfl) (fun _ h9 => h9) rfl dX5_copyFrom_9 ?_
  refine lv_aload_n hx hb dX5_copyFrom_12 rfl (lv_at hl 0 rfl) ?_
  refine va_get (D := (dC, dI)) (ci := 5) (v := .ref (aS 1)) (C := RX5) (T := TX5) (N := 12) hx hb hts hin5 hown hK hP 0 rfl rfl 1 (by decide) (hw_ hts 2 rfl) (fun _ h9 => h9) rfl dX5_copyFrom_13 ?_
  have hF := va_free (wc := [((aS1 1), .inl (cI, 12, .inl (S1 1)))] ++ ([((aS 1), .inl (cI, 12, .inl (Sb1 1)))])) hD hS hA [12, 1] rfl
  refine va_callv (va_runSN (As := [.ref (aS1 1), .ref (aS 1)]) (rest := []) ⟨hx, hb, hml, hown, hts⟩ (met_X6_copyRow l dC dI cI cZ cS (aS1 1) 12 (by decide) (aS 1) 12 (by decide) (S1 1) (Sb1 1) H1.size) ⟨va_cnB 2 hts ggX5_copyFrom_X6_copyRow rfl rfl rfl (hN_2 hN) (hw_ hts 14 rfl) (by decide +kernel) ⟨Nat.le_of_ble_eq_true rfl, Nat.le_of_ble_eq_true rfl⟩, (hw_ hts 13 rfl), trivial⟩ (pS (wc := [((aS1 1), .inl (cI, 12, .inl (S1 1)))] ++ ([((aS 1), .inl (cI, 12, .inl (Sb1 1)))])) hK hP hD hN [12, 1] rfl (by decide)) rfl rfl hl.1 rfl (lv_room (Nat.le_of_ble_eq_true rfl)) dX5_copyFrom_16 ⟨Nat.zero_le _, Nat.zero_le _⟩) hS (fun q _ h => hF q h) hF (fun  u2 t H2 locs ht hvm hw hB hz1 hk1 hS => ?_)
  try dsimp only at hw hB
  rw [ht] at hB
  subst hw
  have hP := wrk (w2 := wSt cI aS (pset Sb1 1 (f6_copyRow 12 12 (S1 1) (Sb1 1))) ++ (wSt cI aS1 S1)) hP hD [12, 1] rfl (by decide) hk1 hB rfl rfl
  have hD := D_addr (w1 := wSt cI aS (pset Sb1 1 (f6_copyRow 12 12 (S1 1) (Sb1 1))) ++ (wSt cI aS1 S1)) hD rfl
  obtain ⟨Sb3, hSb3⟩ : ∃ z : Pic, z = (pset Sb1 1 (f6_copyRow 12 12 (S1 1) (Sb1 1))) := ⟨_, rfl⟩
  rw [← hSb3] at hP hD
  have hR := bd_n hSb3 hR
  refine lv_aload_n hx hb dX5_copyFrom_19 rfl (lv_at hl 1 rfl) ?_
  refine va_get (D := (dC, dI)) (ci := 5) (v := .ref (aS1 2)) (C := RX5) (T := TX5) (N := 12) hx hb hts hin5 hown hK hP 11 rfl rfl 2 (by decide) (hw_ hts 3 rfl) (fun _ h9 => h9) rfl dX5_copyFrom_20 ?_
  refine lv_aload_n hx hb dX5_copyFrom_23 rfl (lv_at hl 0 rfl) ?_
  refine va_get (D := (dC, dI)) (ci := 5) (v := .ref (aS 2)) (C := RX5) (T := TX5) (N := 12) hx hb hts hin5 hown hK hP 0 rfl rfl 2 (by decide) (hw_ hts 3 rfl) (fun _ h9 => h9) rfl dX5_copyFrom_24 ?_
  have hF := va_free (wc := [((aS1 2), .inl (cI, 12, .inl (S1 2)))] ++ ([((aS 2), .inl (cI, 12, .inl (Sb3 2)))])) hD hS hA [13, 2] rfl
  refine va_callv (va_runSN (As := [.ref (aS1 2), .ref (aS 2)]) (rest := []) ⟨hx, hb, hml, hown, hts⟩ (met_X6_copyRow l dC dI cI cZ cS (aS1 2) 12 (by decide) (aS 2) 12 (by decide) (S1 2) (Sb3 2) H2.size) ⟨va_cnB 2 hts ggX5_copyFrom_X6_copyRow rfl rfl rfl (hN_2 hN) (hw_ hts 14 rfl) (by decide +kernel) ⟨Nat.le_of_ble_eq_true rfl, Nat.le_of_ble_eq_true rfl⟩, (hw_ hts 13 rfl), trivial⟩ (pS (wc := [((aS1 2), .inl (cI, 12, .inl (S1 2)))] ++ ([((aS 2), .inl (cI, 12, .inl (Sb3 2)))])) hK hP hD hN [13, 2] rfl (by decide)) rfl rfl hl.1 rfl (lv_room (Nat.le_of_ble_eq_true rfl)) dX5_copyFrom_27 ⟨Nat.zero_le _, Nat.zero_le _⟩) hS (fun q _ h => hF q h) hF (fun  u4 t H3 locs ht hvm hw hB hz1 hk1 hS => ?_)
  try dsimp only at hw hB
  rw [ht] at hB
  subst hw
  have hP := wrk (w2 := wSt cI aS (pset Sb3 2 (f6_copyRow 12 12 (S1 2) (Sb3 2))) ++ (wSt cI aS1 S1)) hP hD [13, 2] rfl (by decide) hk1 hB rfl rfl
  have hD := D_addr (w1 := wSt cI aS (pset Sb3 2 (f6_copyRow 12 12 (S1 2) (Sb3 2))) ++ (wSt cI aS1 S1)) hD rfl
  obtain ⟨Sb5, hSb5⟩ : ∃ z : Pic, z = (pset Sb3 2 (f6_copyRow 12 12 (S1 2) (Sb3 2))) := ⟨_, rfl⟩
  rw [← hSb5] at hP hD
  have hR := bd_n hSb5 hR
  refine lv_aload_n hx hb dX5_copyFrom_30 rfl (lv_at hl 1 rfl) ?_
  refine va_get (D := (dC, dI)) (ci := 5) (v := .ref (aS1 3)) (C := RX5) (T := TX5) (N := 12) hx hb hts hin5 hown hK hP 11 rfl rfl 3 (by decide) (hw_ hts 4 rfl) (fun _ h9 => h9) rfl dX5_copyFrom_31 ?_
  refine lv_aload_n hx hb dX5_copyFrom_34 rfl (lv_at hl 0 rfl) ?_
  refine va_get (D := (dC, dI)) (ci := 5) (v := .ref (aS 3)) (C := RX5) (T := TX5) (N := 12) hx hb hts hin5 hown hK hP 0 rfl rfl 3 (by decide) (hw_ hts 4 rfl) (fun _ h9 => h9) rfl dX5_copyFrom_35 ?_
  have hF := va_free (wc := [((aS1 3), .inl (cI, 12, .inl (S1 3)))] ++ ([((aS 3), .inl (cI, 12, .inl (Sb5 3)))])) hD hS hA [14, 3] rfl
  refine va_callv (va_runSN (As := [.ref (aS1 3), .ref (aS 3)]) (rest := []) ⟨hx, hb, hml, hown, hts⟩ (met_X6_copyRow l dC dI cI cZ cS (aS1 3) 12 (by decide) (aS 3) 12 (by decide) (S1 3) (Sb5 3) H3.size) ⟨va_cnB 2 hts ggX5_copyFrom_X6_copyRow rfl rfl rfl (hN_2 hN) (hw_ hts 14 rfl) (by decide +kernel) ⟨Nat.le_of_ble_eq_true rfl, Nat.le_of_ble_eq_true rfl⟩, (hw_ hts 13 rfl), trivial⟩ (pS (wc := [((aS1 3), .inl (cI, 12, .inl (S1 3)))] ++ ([((aS 3), .inl (cI, 12, .inl (Sb5 3)))])) hK hP hD hN [14, 3] rfl (by decide)) rfl rfl hl.1 rfl (lv_room (Nat.le_of_ble_eq_true rfl)) dX5_copyFrom_38 ⟨Nat.zero_le _, Nat.zero_le _⟩) hS (fun q _ h => hF q h) hF (fun  u6 t H4 locs ht hvm hw hB hz1 hk1 hS => ?_)
  try dsimp only at hw hB
  rw [ht] at hB
  subst hw
  have hP := wrk (w2 := wSt cI aS (pset Sb5 3 (f6_copyRow 12 12 (S1 3) (Sb5 3))) ++ (wSt cI aS1 S1)) hP hD [14, 3] rfl (by decide) hk1 hB rfl rfl
  have hD := D_addr (w1 := wSt cI aS (pset Sb5 3 (f6_copyRow 12 12 (S1 3) (Sb5 3))) ++ (wSt cI aS1 S1)) hD rfl
  obtain ⟨Sb7, hSb7⟩ : ∃ z : Pic, z = (pset Sb5 3 (f6_copyRow 12 12 (S1 3) (Sb5 3))) := ⟨_, rfl⟩
  rw [← hSb7] at hP hD
  have hR := bd_n hSb7 hR
  refine lv_aload_n hx hb dX5_copyFrom_41 rfl (lv_at hl 1 rfl) ?_
  refine va_get (D := (dC, dI)) (ci := 5) (v := .ref (aS1 4)) (C := RX5) (T := TX5) (N := 12) hx hb hts hin5 hown hK hP 11 rfl rfl 4 (by decide) (hw_ hts 5 rfl) (fun _ h9 => h9) rfl dX5_copyFrom_42 ?_
  refine lv_aload_n hx hb dX5_copyFrom_45 rfl (lv_at hl 0 rfl) ?_
  refine va_get (D := (dC, dI)) (ci := 5) (v := .ref (aS 4)) (C := RX5) (T := TX5) (N := 12) hx hb hts hin5 hown hK hP 0 rfl rfl 4 (by decide) (hw_ hts 5 rfl) (fun _ h9 => h9) rfl dX5_copyFrom_46 ?_
  have hF := va_free (wc := [((aS1 4), .inl (cI, 12, .inl (S1 4)))] ++ ([((aS 4), .inl (cI, 12, .inl (Sb7 4)))])) hD hS hA [15, 4] rfl
  refine va_callv (va_runSN (As := [.ref (aS1 4), .ref (aS 4)]) (rest := []) ⟨hx, hb, hml, hown, hts⟩ (met_X6_copyRow l dC dI cI cZ cS (aS1 4) 12 (by decide) (aS 4) 12 (by decide) (S1 4) (Sb7 4) H4.size) ⟨va_cnB 2 hts ggX5_copyFrom_X6_copyRow rfl rfl rfl (hN_2 hN) (hw_ hts 14 rfl) (by decide +kernel) ⟨Nat.le_of_ble_eq_true rfl, Nat.le_of_ble_eq_true rfl⟩, (hw_ hts 13 rfl), trivial⟩ (pS (wc := [((aS1 4), .inl (cI, 12, .inl (S1 4)))] ++ ([((aS 4), .inl (cI, 12, .inl (Sb7 4)))])) hK hP hD hN [15, 4] rfl (by decide)) rfl rfl hl.1 rfl (lv_room (Nat.le_of_ble_eq_true rfl)) dX5_copyFrom_49 ⟨Nat.zero_le _, Nat.zero_le _⟩) hS (fun q _ h => hF q h) hF (fun  u8 t H5 locs ht hvm hw hB hz1 hk1 hS => ?_)
  try dsimp only at hw hB
  rw [ht] at hB
  subst hw
  have hP := wrk (w2 := wSt cI aS (pset Sb7 4 (f6_copyRow 12 12 (S1 4) (Sb7 4))) ++ (wSt cI aS1 S1)) hP hD [15, 4] rfl (by decide) hk1 hB rfl rfl
  have hD := D_addr (w1 := wSt cI aS (pset Sb7 4 (f6_copyRow 12 12 (S1 4) (Sb7 4))) ++ (wSt cI aS1 S1)) hD rfl
  obtain ⟨Sb9, hSb9⟩ : ∃ z : Pic, z = (pset Sb7 4 (f6_copyRow 12 12 (S1 4) (Sb7 4))) := ⟨_, rfl⟩
  rw [← hSb9] at hP hD
  have hR := bd_n hSb9 hR
  refine lv_aload_n hx hb dX5_copyFrom_52 rfl (lv_at hl 1 rfl) ?_
  refine va_get (D := (dC, dI)) (ci := 5) (v := .ref (aS1 5)) (C := RX5) (T := TX5) (N := 12) hx hb hts hin5 hown hK hP 11 rfl rfl 5 (by decide) (hw_ hts 6 rfl) (fun _ h9 => h9) rfl dX5_copyFrom_53 ?_
  refine lv_aload_n hx hb dX5_copyFrom_56 rfl (lv_at hl 0 rfl) ?_
  refine va_get (D := (dC, dI)) (ci := 5) (v := .ref (aS 5)) (C := RX5) (T := TX5) (N := 12) hx hb hts hin5 hown hK hP 0 rfl rfl 5 (by decide) (hw_ hts 6 rfl) (fun _ h9 => h9) rfl dX5_copyFrom_57 ?_
  have hF := va_free (wc := [((aS1 5), .inl (cI, 12, .inl (S1 5)))] ++ ([((aS 5), .inl (cI, 12, .inl (Sb9 5)))])) hD hS hA [16, 5] rfl
  refine va_callv (va_runSN (As := [.ref (aS1 5), .ref (aS 5)]) (rest := []) ⟨hx, hb, hml, hown, hts⟩ (met_X6_copyRow l dC dI cI cZ cS (aS1 5) 12 (by decide) (aS 5) 12 (by decide) (S1 5) (Sb9 5) H5.size) ⟨va_cnB 2 hts ggX5_copyFrom_X6_copyRow rfl rfl rfl (hN_2 hN) (hw_ hts 14 rfl) (by decide +kernel) ⟨Nat.le_of_ble_eq_true rfl, Nat.le_of_ble_eq_true rfl⟩, (hw_ hts 13 rfl), trivial⟩ (pS (wc := [((aS1 5), .inl (cI, 12, .inl (S1 5)))] ++ ([((aS 5), .inl (cI, 12, .inl (Sb9 5)))])) hK hP hD hN [16, 5] rfl (by decide)) rfl rfl hl.1 rfl (lv_room (Nat.le_of_ble_eq_true rfl)) dX5_copyFrom_60 ⟨Nat.zero_le _, Nat.zero_le _⟩) hS (fun q _ h => hF q h) hF (fun  u10 t H6 locs ht hvm hw hB hz1 hk1 hS => ?_)
  try dsimp only at hw hB
  rw [ht] at hB
  subst hw
  have hP := wrk (w2 := wSt cI aS (pset Sb9 5 (f6_copyRow 12 12 (S1 5) (Sb9 5))) ++ (wSt cI aS1 S1)) hP hD [16, 5] rfl (by decide) hk1 hB rfl rfl
  have hD := D_addr (w1 := wSt cI aS (pset Sb9 5 (f6_copyRow 12 12 (S1 5) (Sb9 5))) ++ (wSt cI aS1 S1)) hD rfl
  obtain ⟨Sb11, hSb11⟩ : ∃ z : Pic, z = (pset Sb9 5 (f6_copyRow 12 12 (S1 5) (Sb9 5))) := ⟨_, rfl⟩
  rw [← hSb11] at hP hD
  have hR := bd_n hSb11 hR
  refine lv_aload_n hx hb dX5_copyFrom_63 rfl (lv_at hl 1 rfl) ?_
  refine va_get (D := (dC, dI)) (ci := 5) (v := .ref (aS1 6)) (C := RX5) (T := TX5) (N := 12) hx hb hts hin5 hown hK hP 11 rfl rfl 6 (by decide) (hw_ hts 7 rfl) (fun _ h9 => h9) rfl dX5_copyFrom_64 ?_
  refine lv_aload_n hx hb dX5_copyFrom_67 rfl (lv_at hl 0 rfl) ?_
  refine va_get (D := (dC, dI)) (ci := 5) (v := .ref (aS 6)) (C := RX5) (T := TX5) (N := 12) hx hb hts hin5 hown hK hP 0 rfl rfl 6 (by decide) (hw_ hts 7 rfl) (fun _ h9 => h9) rfl dX5_copyFrom_68 ?_
  have hF := va_free (wc := [((aS1 6), .inl (cI, 12, .inl (S1 6)))] ++ ([((aS 6), .inl (cI, 12, .inl (Sb11 6)))])) hD hS hA [17, 6] rfl
  refine va_callv (va_runSN (As := [.ref (aS1 6), .ref (aS 6)]) (rest := []) ⟨hx, hb, hml, hown, hts⟩ (met_X6_copyRow l dC dI cI cZ cS (aS1 6) 12 (by decide) (aS 6) 12 (by decide) (S1 6) (Sb11 6) H6.size) ⟨va_cnB 2 hts ggX5_copyFrom_X6_copyRow rfl rfl rfl (hN_2 hN) (hw_ hts 14 rfl) (by decide +kernel) ⟨Nat.le_of_ble_eq_true rfl, Nat.le_of_ble_eq_true rfl⟩, (hw_ hts 13 rfl), trivial⟩ (pS (wc := [((aS1 6), .inl (cI, 12, .inl (S1 6)))] ++ ([((aS 6), .inl (cI, 12, .inl (Sb11 6)))])) hK hP hD hN [17, 6] rfl (by decide)) rfl rfl hl.1 rfl (lv_room (Nat.le_of_ble_eq_true rfl)) dX5_copyFrom_71 ⟨Nat.zero_le _, Nat.zero_le _⟩) hS (fun q _ h => hF q h) hF (fun  u12 t H7 locs ht hvm hw hB hz1 hk1 hS => ?_)
  try dsimp only at hw hB
  rw [ht] at hB
  subst hw
  have hP := wrk (w2 := wSt cI aS (pset Sb11 6 (f6_copyRow 12 12 (S1 6) (Sb11 6))) ++ (wSt cI aS1 S1)) hP hD [17, 6] rfl (by decide) hk1 hB rfl rfl
  have hD := D_addr (w1 := wSt cI aS (pset Sb11 6 (f6_copyRow 12 12 (S1 6) (Sb11 6))) ++ (wSt cI aS1 S1)) hD rfl
  obtain ⟨Sb13, hSb13⟩ : ∃ z : Pic, z = (pset Sb11 6 (f6_copyRow 12 12 (S1 6) (Sb11 6))) := ⟨_, rfl⟩
  rw [← hSb13] at hP hD
  have hR := bd_n hSb13 hR
  refine lv_aload_n hx hb dX5_copyFrom_74 rfl (lv_at hl 0 rfl) ?_
  refine lv_aload_n hx hb dX5_copyFrom_75 rfl (lv_at hl 1 rfl) ?_
  refine va_get (D := (dC, dI)) (ci := 5) (v := .int ((S1 7) 0)) (C := RX5) (T := TX5) (N := 12) hx hb hts hin5 hown hK hP 11 rfl rfl 7 (by decide) (hw_ hts 8 rfl) (fun _ h9 => h9) rfl dX5_copyFrom_76 ?_
  refine va_put (D := (dC, dI)) (ci := 5) (v := .int ((S1 7) 0)) (ty := .int) (C := RX5) (T := TX5) (N := 12) hx hb hts hin5 tyX5 tyX5_ok nmX5 hown hK hP hD hS 0 rfl rfl 7 (by decide) (hw_ hts 8 rfl) (fun _ h9 => h9) rfl (by decide +kernel) rfl rfl (Nat.le_of_ble_eq_true rfl) dX5_copyFrom_79 (fun H8 locs hP hD hS => ?_)
  have hP : va_P (dC, dI) vwCl (wSt cI aS (pset Sb13 7 (fun _ => ((S1 7) 0))) ++ (wSt cI aS1 S1)) H8 := hP
  have hD : va_D A (wSt cI aS (pset Sb13 7 (fun _ => ((S1 7) 0))) ++ (wSt cI aS1 S1)) := hD
  obtain ⟨Sb14, hSb14⟩ : ∃ z : Pic, z = (pset Sb13 7 (fun _ => ((S1 7) 0))) := ⟨_, rfl⟩
  rw [← hSb14] at hP hD
  have hR := bd_n hSb14 hR
  refine lv_aload_n hx hb dX5_copyFrom_82 rfl (lv_at hl 1 rfl) ?_
  refine va_get (D := (dC, dI)) (ci := 5) (v := .ref (aS1 8)) (C := RX5) (T := TX5) (N := 12) hx hb hts hin5 hown hK hP 11 rfl rfl 8 (by decide) (hw_ hts 9 rfl) (fun _ h9 => h9) rfl dX5_copyFrom_83 ?_
  refine lv_aload_n hx hb dX5_copyFrom_86 rfl (lv_at hl 0 rfl) ?_
  refine va_get (D := (dC, dI)) (ci := 5) (v := .ref (aS 8)) (C := RX5) (T := TX5) (N := 12) hx hb hts hin5 hown hK hP 0 rfl rfl 8 (by decide) (hw_ hts 9 rfl) (fun _ h9 => h9) rfl dX5_copyFrom_87 ?_
  have hF := va_free (wc := [((aS1 8), .inl (cI, 6, .inl (S1 8)))] ++ ([((aS 8), .inl (cI, 6, .inl (Sb14 8)))])) hD hS hA [18, 7] rfl
  refine va_callv (va_runSN (As := [.ref (aS1 8), .ref (aS 8)]) (rest := []) ⟨hx, hb, hml, hown, hts⟩ (met_X6_copyRow l dC dI cI cZ cS (aS1 8) 6 (by decide) (aS 8) 6 (by decide) (S1 8) (Sb14 8) H8.size) ⟨va_cnB 2 hts ggX5_copyFrom_X6_copyRow rfl rfl rfl (hN_2 hN) (hw_ hts 14 rfl) (by decide +kernel) ⟨Nat.le_of_ble_eq_true rfl, Nat.le_of_ble_eq_true rfl⟩, (hw_ hts 13 rfl), trivial⟩ (pS (wc := [((aS1 8), .inl (cI, 6, .inl (S1 8)))] ++ ([((aS 8), .inl (cI, 6, .inl (Sb14 8)))])) hK hP hD hN [18, 7] rfl (by decide)) rfl rfl hl.1 rfl (lv_room (Nat.le_of_ble_eq_true rfl)) dX5_copyFrom_90 ⟨Nat.zero_le _, Nat.zero_le _⟩) hS (fun q _ h => hF q h) hF (fun  u15 t H9 locs ht hvm hw hB hz1 hk1 hS => ?_)
  try dsimp only at hw hB
  rw [ht] at hB
  subst hw
  have hP := wrk (w2 := wSt cI aS (pset Sb14 8 (f6_copyRow 6 6 (S1 8) (Sb14 8))) ++ (wSt cI aS1 S1)) hP hD [18, 7] rfl (by decide) hk1 hB rfl rfl
  have hD := D_addr (w1 := wSt cI aS (pset Sb14 8 (f6_copyRow 6 6 (S1 8) (Sb14 8))) ++ (wSt cI aS1 S1)) hD rfl
  obtain ⟨Sb16, hSb16⟩ : ∃ z : Pic, z = (pset Sb14 8 (f6_copyRow 6 6 (S1 8) (Sb14 8))) := ⟨_, rfl⟩
  rw [← hSb16] at hP hD
  have hR := bd_n hSb16 hR
  refine lv_aload_n hx hb dX5_copyFrom_93 rfl (lv_at hl 1 rfl) ?_
  refine va_get (D := (dC, dI)) (ci := 5) (v := .ref (aS1 9)) (C := RX5) (T := TX5) (N := 12) hx hb hts hin5 hown hK hP 11 rfl rfl 9 (by decide) (hw_ hts 10 rfl) (fun _ h9 => h9) rfl dX5_copyFrom_94 ?_
  refine lv_aload_n hx hb dX5_copyFrom_97 rfl (lv_at hl 0 rfl) ?_
  refine va_get (D := (dC, dI)) (ci := 5) (v := .ref (aS 9)) (C := RX5) (T := TX5) (N := 12) hx hb hts hin5 hown hK hP 0 rfl rfl 9 (by decide) (hw_ hts 10 rfl) (fun _ h9 => h9) rfl dX5_copyFrom_98 ?_
  have hF := va_free (wc := [((aS1 9), .inl (cI, 6, .inl (S1 9)))] ++ ([((aS 9), .inl (cI, 6, .inl (Sb16 9)))])) hD hS hA [19, 8] rfl
  refine va_callv (va_runSN (As := [.ref (aS1 9), .ref (aS 9)]) (rest := []) ⟨hx, hb, hml, hown, hts⟩ (met_X6_copyRow l dC dI cI cZ cS (aS1 9) 6 (by decide) (aS 9) 6 (by decide) (S1 9) (Sb16 9) H9.size) ⟨va_cnB 2 hts ggX5_copyFrom_X6_copyRow rfl rfl rfl (hN_2 hN) (hw_ hts 14 rfl) (by decide +kernel) ⟨Nat.le_of_ble_eq_true rfl, Nat.le_of_ble_eq_true rfl⟩, (hw_ hts 13 rfl), trivial⟩ (pS (wc := [((aS1 9), .inl (cI, 6, .inl (S1 9)))] ++ ([((aS 9), .inl (cI, 6, .inl (Sb16 9)))])) hK hP hD hN [19, 8] rfl (by decide)) rfl rfl hl.1 rfl (lv_room (Nat.le_of_ble_eq_true rfl)) dX5_copyFrom_101 ⟨Nat.zero_le _, Nat.zero_le _⟩) hS (fun q _ h => hF q h) hF (fun  u17 t H10 locs ht hvm hw hB hz1 hk1 hS => ?_)
  try dsimp only at hw hB
  rw [ht] at hB
  subst hw
  have hP := wrk (w2 := wSt cI aS (pset Sb16 9 (f6_copyRow 6 6 (S1 9) (Sb16 9))) ++ (wSt cI aS1 S1)) hP hD [19, 8] rfl (by decide) hk1 hB rfl rfl
  have hD := D_addr (w1 := wSt cI aS (pset Sb16 9 (f6_copyRow 6 6 (S1 9) (Sb16 9))) ++ (wSt cI aS1 S1)) hD rfl
  obtain ⟨Sb18, hSb18⟩ : ∃ z : Pic, z = (pset Sb16 9 (f6_copyRow 6 6 (S1 9) (Sb16 9))) := ⟨_, rfl⟩
  rw [← hSb18] at hP hD
  have hR := bd_n hSb18 hR
  refine lv_aload_n hx hb dX5_copyFrom_104 rfl (lv_at hl 1 rfl) ?_
  refine va_get (D := (dC, dI)) (ci := 5) (v := .ref (aS1 10)) (C := RX5) (T := TX5) (N := 12) hx hb hts hin5 hown hK hP 11 rfl rfl 10 (by decide) (hw_ hts 11 rfl) (fun _ h9 => h9) rfl dX5_copyFrom_105 ?_
  refine lv_aload_n hx hb dX5_copyFrom_108 rfl (lv_at hl 0 rfl) ?_
  refine va_get (D := (dC, dI)) (ci := 5) (v := .ref (aS 10)) (C := RX5) (T := TX5) (N := 12) hx hb hts hin5 hown hK hP 0 rfl rfl 10 (by decide) (hw_ hts 11 rfl) (fun _ h9 => h9) rfl dX5_copyFrom_109 ?_
  have hF := va_free (wc := [((aS1 10), .inl (cI, 3, .inl (S1 10)))] ++ ([((aS 10), .inl (cI, 3, .inl (Sb18 10)))])) hD hS hA [20, 9] rfl
  refine va_callv (va_runSN (As := [.ref (aS1 10), .ref (aS 10)]) (rest := []) ⟨hx, hb, hml, hown, hts⟩ (met_X6_copyRow l dC dI cI cZ cS (aS1 10) 3 (by decide) (aS 10) 3 (by decide) (S1 10) (Sb18 10) H10.size) ⟨va_cnB 2 hts ggX5_copyFrom_X6_copyRow rfl rfl rfl (hN_2 hN) (hw_ hts 14 rfl) (by decide +kernel) ⟨Nat.le_of_ble_eq_true rfl, Nat.le_of_ble_eq_true rfl⟩, (hw_ hts 13 rfl), trivial⟩ (pS (wc := [((aS1 10), .inl (cI, 3, .inl (S1 10)))] ++ ([((aS 10), .inl (cI, 3, .inl (Sb18 10)))])) hK hP hD hN [20, 9] rfl (by decide)) rfl rfl hl.1 rfl (lv_room (Nat.le_of_ble_eq_true rfl)) dX5_copyFrom_112 ⟨Nat.zero_le _, Nat.zero_le _⟩) hS (fun q _ h => hF q h) hF (fun  u19 t H11 locs ht hvm hw hB hz1 hk1 hS => ?_)
  try dsimp only at hw hB
  rw [ht] at hB
  subst hw
  have hP := wrk (w2 := wSt cI aS (pset Sb18 10 (f6_copyRow 3 3 (S1 10) (Sb18 10))) ++ (wSt cI aS1 S1)) hP hD [20, 9] rfl (by decide) hk1 hB rfl rfl
  have hD := D_addr (w1 := wSt cI aS (pset Sb18 10 (f6_copyRow 3 3 (S1 10) (Sb18 10))) ++ (wSt cI aS1 S1)) hD rfl
  obtain ⟨Sb20, hSb20⟩ : ∃ z : Pic, z = (pset Sb18 10 (f6_copyRow 3 3 (S1 10) (Sb18 10))) := ⟨_, rfl⟩
  rw [← hSb20] at hP hD
  have hR := bd_n hSb20 hR
  refine lv_aload_n hx hb dX5_copyFrom_115 rfl (lv_at hl 1 rfl) ?_
  refine va_get (D := (dC, dI)) (ci := 5) (v := .ref (aS1 11)) (C := RX5) (T := TX5) (N := 12) hx hb hts hin5 hown hK hP 11 rfl rfl 11 (by decide) (hw_ hts 12 rfl) (fun _ h9 => h9) rfl dX5_copyFrom_116 ?_
  refine lv_aload_n hx hb dX5_copyFrom_119 rfl (lv_at hl 0 rfl) ?_
  refine va_get (D := (dC, dI)) (ci := 5) (v := .ref (aS 11)) (C := RX5) (T := TX5) (N := 12) hx hb hts hin5 hown hK hP 0 rfl rfl 11 (by decide) (hw_ hts 12 rfl) (fun _ h9 => h9) rfl dX5_copyFrom_120 ?_
  have hF := va_free (wc := [((aS1 11), .inl (cI, 84, .inl (S1 11)))] ++ ([((aS 11), .inl (cI, 84, .inl (Sb20 11)))])) hD hS hA [21, 10] rfl
  refine va_callv (va_runSN (As := [.ref (aS1 11), .ref (aS 11)]) (rest := []) ⟨hx, hb, hml, hown, hts⟩ (met_X6_copyRow l dC dI cI cZ cS (aS1 11) 84 (by decide) (aS 11) 84 (by decide) (S1 11) (Sb20 11) H11.size) ⟨va_cnB 2 hts ggX5_copyFrom_X6_copyRow rfl rfl rfl (hN_2 hN) (hw_ hts 14 rfl) (by decide +kernel) ⟨Nat.le_of_ble_eq_true rfl, Nat.le_of_ble_eq_true rfl⟩, (hw_ hts 13 rfl), trivial⟩ (pS (wc := [((aS1 11), .inl (cI, 84, .inl (S1 11)))] ++ ([((aS 11), .inl (cI, 84, .inl (Sb20 11)))])) hK hP hD hN [21, 10] rfl (by decide)) rfl rfl hl.1 rfl (lv_room (Nat.le_of_ble_eq_true rfl)) dX5_copyFrom_123 ⟨Nat.zero_le _, Nat.zero_le _⟩) hS (fun q _ h => hF q h) hF (fun  u21 t H12 locs ht hvm hw hB hz1 hk1 hS => ?_)
  try dsimp only at hw hB
  rw [ht] at hB
  subst hw
  have hP := wrk (w2 := wSt cI aS (pset Sb20 11 (f6_copyRow 84 84 (S1 11) (Sb20 11))) ++ (wSt cI aS1 S1)) hP hD [21, 10] rfl (by decide) hk1 hB rfl rfl
  have hD := D_addr (w1 := wSt cI aS (pset Sb20 11 (f6_copyRow 84 84 (S1 11) (Sb20 11))) ++ (wSt cI aS1 S1)) hD rfl
  obtain ⟨Sb22, hSb22⟩ : ∃ z : Pic, z = (pset Sb20 11 (f6_copyRow 84 84 (S1 11) (Sb20 11))) := ⟨_, rfl⟩
  rw [← hSb22] at hP hD
  have hR := bd_n hSb22 hR
  exact W.vret hx hb hr (fun t ht hW => ⟨⟨Sb22, rfl, hR, P_at ht hP⟩, hS.F ht⟩) hS.2.2 dX5_copyFrom_126
