abbrev rm_X7_append : Room := { frames := 1, cells := 0, slots := 0, locals := 22 }
abbrev q_X7_append (dC : Nat → ClassId) (dI : Nat → Nat → Nat) (cI cZ cS : ClassId) (aM : Nat → Nat) (hs : Int64) (res : Int32 × Pic) (A : Nat → Prop) : Array Value → State → Outcome → State → Prop := va_Qi (fun (r : Int32) (u : Pic) => (r, u) = res) (fun u t => va_P (dC, dI) vwCl (wMo cI aM u hs) t.heap) A
set_option maxHeartbeats 4000000 in
set_option maxRecDepth 100000 in
theorem met_X7_append (l : Launch) (dC : Nat → ClassId) (dI : Nat → Nat → Nat) (cI cZ cS : ClassId) (aM : Nat → Nat) (M : Pic) (hs : Int64) (sz : Nat) (p1 : Int32) (res : Int32 × Pic) (hR : f7_append M p1 = some res) : Met l yX7_append wsX7_append rm_X7_append (va_Pc [.ref (aM 0), .int p1] (pW (dC, dI) (tyS cI cZ cS) (wMo cI aM M hs) sz)) (q_X7_append dC dI cI cZ cS aM hs res (va_A (wMo cI aM M hs) sz)) 0 0 (va_A (wMo cI aM M hs) sz) := by
  refine Met.ofW (cc := cX7_append) (maxL := 2) (ret := (some .int)) (by decide) rfl ?_
  intro p e s m args below meth c s₁ B hml hv
  obtain ⟨rfl, hsz, hP, hK, hD0, hN⟩ := hv
  have hx := B.exec
  have hb := B.bytes
  have hr := B.returns
  have hts := atoms_spec (ws := wsX7_append) B.pre
  have hown : s.vm.findClass RX7 = some m.cls := findClass_of_methodNamed B.named
  have hlocks := B.notSynchronized
  subst hsz
  have hD := hD0.self (sz := s.heap.size)
  generalize hAe : va_A (wMo cI aM M hs) s.heap.size = A at hD ⊢
  have hA : ∀ q : Nat, s.heap.size ≤ q → A q := fun q h => by rw [← hAe]; exact Or.inr h
  have hS : va_S A s.heap s.heap [] := va_S.rf
  have hP : va_P (dC, dI) vwCl (wMo cI aM M hs) s.heap := hP
  rw [f7_append] at hR
  have hin7 : ∀ w ∈ wsX70, w ∈ wsX7_append := by decide +kernel
  have hl := lv_entry ([.ref (aM 0), .int p1]) (n := 2) (Nat.le_of_ble_eq_true rfl)
  rw [lg_entry_eq]
  generalize (lg_sl ([.ref (aM 0), .int p1]) ++ List.replicate (2 - (lg_sl ([.ref (aM 0), .int p1])).length) Slot.unset).toArray = ls at hl ⊢
  have hl : lv_has ls 2 [(0, .ref (aM 0)), (1, .int p1)] := hl
  refine lv_aload_n hx hb dX7_append_0 rfl (lv_at hl 0 rfl) ?_
  refine lv_iload_n hx hb dX7_append_1 rfl (lv_at hl 1 rfl) ?_
  refine lv_bipush (v := (33 : Int32)) hx hb dX7_append_2 (by decide) ?_
  refine lv_bipush (v := (126 : Int32)) hx hb dX7_append_4 (by decide) ?_
  refine va_calli (va_runS (As := [.int p1, .int (33 : Int32), .int (126 : Int32)]) (rest := [.ref (aM 0)]) ⟨hx, hb, hml, hown, hts⟩ (met_X7_within l dC dI cI cZ cS s.heap.size p1 (33 : Int32) (126 : Int32)) (va_cwS 3 hts gX7_append_X7_within rfl rfl rfl (by decide +kernel) ⟨Nat.le_of_ble_eq_true rfl, Nat.le_of_ble_eq_true rfl⟩) (pS (wc := []) hK hP hD hN [] rfl (by decide)) rfl rfl hl.1 rfl (lv_room (Nat.le_of_ble_eq_true rfl)) dX7_append_6 ⟨Nat.zero_le _, Nat.zero_le _⟩) hS (fun q _ h => a0_in hS hA q h) (a0_in hS hA) (fun r1 u t H1 locs ht hvm hw hB hz1 hk1 hS => ?_)
  obtain ⟨hw, nb2⟩ := hw
  subst hw
  have hP := rdk hP hk1
  refine lv_if_ne (tgt := 16) hx hb dX7_append_9 (by decide) (fun c_3 => ?_) (fun c_3 => ?_)
  · rw [if_neg c_3] at hR
    refine lv_aload_n hx hb dX7_append_16 rfl (lv_at hl 0 rfl) ?_
    refine va_get (D := (dC, dI)) (ci := 7) (v := .int ((M 5) 0)) (C := RX7) (T := TX7) (N := 15) hx hb hts hin7 hown hK hP 0 rfl rfl 5 (by decide) (hw_ hts 1 rfl) (fun _ h9 => h9) rfl dX7_append_17 ?_
    refine lv_bipush (v := (60 : Int32)) hx hb dX7_append_20 (by decide) ?_
    refine lv_icmp_ne (tgt := 29) hx hb dX7_append_22 (by decide) (fun c_4 => ?_) (fun c_4 => ?_)
    · rw [if_neg c_4] at hR
      refine lv_iconst (v := (0 : Int32)) hx hb dX7_append_29 (by decide) ?_
      refine va_put (D := (dC, dI)) (ci := 7) (v := .int (0 : Int32)) (ty := .int) (C := RX7) (T := TX7) (N := 15) hx hb hts hin7 tyX7 tyX7_ok nmX7 hown hK hP hD hS 0 rfl rfl 7 (by decide) (hw_ hts 2 rfl) (fun _ h9 => h9) rfl (by decide +kernel) rfl rfl (Nat.le_of_ble_eq_true rfl) dX7_append_30 (fun H2 locs hP hD hS => ?_)
      have hP : va_P (dC, dI) vwCl (wMo cI aM (pset M 7 (fun _ => (0 : Int32))) hs) H2 := hP
      have hD : va_D A (wMo cI aM (pset M 7 (fun _ => (0 : Int32))) hs) := hD
      refine lv_aload_n hx hb dX7_append_33 rfl (lv_at hl 0 rfl) ?_
      refine va_get (D := (dC, dI)) (ci := 7) (v := .int (0 : Int32)) (C := RX7) (T := TX7) (N := 15) hx hb hts hin7 hown hK hP 0 rfl rfl 7 (by decide) (hw_ hts 2 rfl) (fun _ h9 => h9) rfl dX7_append_34 ?_
      refine lv_if_le (tgt := 42) hx hb dX7_append_37 (by decide) (fun _ => ?_) (fun q => absurd (by decide) q)
      refine lv_aload_n hx hb dX7_append_42 rfl (lv_at hl 0 rfl) ?_
      refine va_get (D := (dC, dI)) (ci := 7) (v := .ref (aM 5)) (C := RX7) (T := TX7) (N := 15) hx hb hts hin7 hown hK hP 0 rfl rfl 6 (by decide) (hw_ hts 3 rfl) (fun _ h9 => h9) rfl dX7_append_43 ?_
      refine lv_aload_n hx hb dX7_append_46 rfl (lv_at hl 0 rfl) ?_
      refine va_get (D := (dC, dI)) (ci := 7) (v := .int ((M 5) 0)) (C := RX7) (T := TX7) (N := 15) hx hb hts hin7 hown hK hP 0 rfl rfl 5 (by decide) (hw_ hts 1 rfl) (fun _ h9 => h9) rfl dX7_append_47 ?_
      refine lv_iload_n hx hb dX7_append_50 rfl (lv_at hl 1 rfl) ?_
      obtain ⟨hix5, hR⟩ := ck_some hR
      refine va_iast (f := (M 6)) hx hb hK hP hD hS 5 0 rfl rfl hix5 dX7_append_51 (fun H3 locs hP hD hS => ?_)
      have hP : va_P (dC, dI) vwCl (wMo cI aM (pset (pset M 6 (upd (M 6) (ix ((M 5) 0)) p1)) 7 (fun _ => (0 : Int32))) hs) H3 := hP
      have hD : va_D A (wMo cI aM (pset (pset M 6 (upd (M 6) (ix ((M 5) 0)) p1)) 7 (fun _ => (0 : Int32))) hs) := hD
      obtain ⟨Mb6, hMb6⟩ : ∃ z : Pic, z = (pset (pset M 6 (upd (M 6) (ix ((M 5) 0)) p1)) 7 (fun _ => (0 : Int32))) := ⟨_, rfl⟩
      rw [← hMb6] at hP hD
      have hR := bd_n hMb6 hR
      refine lv_aload_n hx hb dX7_append_52 rfl (lv_at hl 0 rfl) ?_
      refine lv_dup hx hb dX7_append_53 rfl ?_
      refine va_get (D := (dC, dI)) (ci := 7) (v := .int ((Mb6 5) 0)) (C := RX7) (T := TX7) (N := 15) hx hb hts hin7 hown hK hP 0 rfl rfl 5 (by decide) (hw_ hts 1 rfl) (fun _ h9 => h9) rfl dX7_append_54 ?_
      refine lv_iconst (v := (1 : Int32)) hx hb dX7_append_57 (by decide) ?_
      refine lv_iadd hx hb dX7_append_58 ?_
      refine va_put (D := (dC, dI)) (ci := 7) (v := .int (((Mb6 5) 0) + (1 : Int32))) (ty := .int) (C := RX7) (T := TX7) (N := 15) hx hb hts hin7 tyX7 tyX7_ok nmX7 hown hK hP hD hS 0 rfl rfl 5 (by decide) (hw_ hts 1 rfl) (fun _ h9 => h9) rfl (by decide +kernel) rfl rfl (Nat.le_of_ble_eq_true rfl) dX7_append_59 (fun H4 locs hP hD hS => ?_)
      have hP : va_P (dC, dI) vwCl (wMo cI aM (pset Mb6 5 (fun _ => (((Mb6 5) 0) + (1 : Int32)))) hs) H4 := hP
      have hD : va_D A (wMo cI aM (pset Mb6 5 (fun _ => (((Mb6 5) 0) + (1 : Int32)))) hs) := hD
      obtain ⟨Mb7, hMb7⟩ : ∃ z : Pic, z = (pset Mb6 5 (fun _ => (((Mb6 5) 0) + (1 : Int32)))) := ⟨_, rfl⟩
      rw [← hMb7] at hP hD
      have hR := bd_n hMb7 hR
      refine lv_aload_n hx hb dX7_append_62 rfl (lv_at hl 0 rfl) ?_
      refine va_get (D := (dC, dI)) (ci := 7) (v := .int ((Mb7 5) 0)) (C := RX7) (T := TX7) (N := 15) hx hb hts hin7 hown hK hP 0 rfl rfl 5 (by decide) (hw_ hts 1 rfl) (fun _ h9 => h9) rfl dX7_append_63 ?_
      exact W.iret (v := ((Mb7 5) 0)) hx hb hr (fun t ht hW => ⟨⟨((Mb7 5) 0), Mb7, rfl, Option.some.inj hR, P_at ht hP⟩, hS.F ht⟩) hS.2.2 dX7_append_66
    · rw [if_pos c_4] at hR
      refine lv_iconst (v := (2 : Int32)) hx hb dX7_append_25 (by decide) ?_
      refine lv_goto (tgt := 30) hx hb dX7_append_26 (by decide) ?_
      refine va_put (D := (dC, dI)) (ci := 7) (v := .int (2 : Int32)) (ty := .int) (C := RX7) (T := TX7) (N := 15) hx hb hts hin7 tyX7 tyX7_ok nmX7 hown hK hP hD hS 0 rfl rfl 7 (by decide) (hw_ hts 2 rfl) (fun _ h9 => h9) rfl (by decide +kernel) rfl rfl (Nat.le_of_ble_eq_true rfl) dX7_append_30 (fun H2 locs hP hD hS => ?_)
      have hP : va_P (dC, dI) vwCl (wMo cI aM (pset M 7 (fun _ => (2 : Int32))) hs) H2 := hP
      have hD : va_D A (wMo cI aM (pset M 7 (fun _ => (2 : Int32))) hs) := hD
      refine lv_aload_n hx hb dX7_append_33 rfl (lv_at hl 0 rfl) ?_
      refine va_get (D := (dC, dI)) (ci := 7) (v := .int (2 : Int32)) (C := RX7) (T := TX7) (N := 15) hx hb hts hin7 hown hK hP 0 rfl rfl 7 (by decide) (hw_ hts 2 rfl) (fun _ h9 => h9) rfl dX7_append_34 ?_
      refine lv_if_le (tgt := 42) hx hb dX7_append_37 (by decide) (fun q => absurd q (by decide)) (fun _ => ?_)
      refine lv_iconst (v := (0 : Int32)) hx hb dX7_append_40 (by decide) ?_
      exact W.iret (v := (0 : Int32)) hx hb hr (fun t ht hW => ⟨⟨(0 : Int32), (pset M 7 (fun _ => (2 : Int32))), rfl, Option.some.inj hR, P_at ht hP⟩, hS.F ht⟩) hS.2.2 dX7_append_41
  · rw [if_pos c_3] at hR
    refine lv_iconst (v := (1 : Int32)) hx hb dX7_append_12 (by decide) ?_
    refine lv_goto (tgt := 30) hx hb dX7_append_13 (by decide) ?_
    refine va_put (D := (dC, dI)) (ci := 7) (v := .int (1 : Int32)) (ty := .int) (C := RX7) (T := TX7) (N := 15) hx hb hts hin7 tyX7 tyX7_ok nmX7 hown hK hP hD hS 0 rfl rfl 7 (by decide) (hw_ hts 2 rfl) (fun _ h9 => h9) rfl (by decide +kernel) rfl rfl (Nat.le_of_ble_eq_true rfl) dX7_append_30 (fun H2 locs hP hD hS => ?_)
    have hP : va_P (dC, dI) vwCl (wMo cI aM (pset M 7 (fun _ => (1 : Int32))) hs) H2 := hP
    have hD : va_D A (wMo cI aM (pset M 7 (fun _ => (1 : Int32))) hs) := hD
    refine lv_aload_n hx hb dX7_append_33 rfl (lv_at hl 0 rfl) ?_
    refine va_get (D := (dC, dI)) (ci := 7) (v := .int (1 : Int32)) (C := RX7) (T := TX7) (N := 15) hx hb hts hin7 hown hK hP 0 rfl rfl 7 (by decide) (hw_ hts 2 rfl) (fun _ h9 => h9) rfl dX7_append_34 ?_
    refine lv_if_le (tgt := 42) hx hb dX7_append_37 (by decide) (fun q => absurd q (by decide)) (fun _ => ?_)
    refine lv_iconst (v := (0 : Int32)) hx hb dX7_append_40 (by decide) ?_
    exact W.iret (v := (0 : Int32)) hx hb hr (fun t ht hW => ⟨⟨(0 : Int32), (pset M 7 (fun _ => (1 : Int32))), rfl, Option.some.inj hR, P_at ht hP⟩, hS.F ht⟩) hS.2.2 dX7_append_41
abbrev rm_X7_clearBuffer : Room := { frames := 0, cells := 0, slots := 0, locals := 0 }
abbrev q_X7_clearBuffer (dC : Nat → ClassId) (dI : Nat → Nat → Nat) (cI cZ cS : ClassId) (aM : Nat → Nat) (hs : Int64) (res : Int32 × Pic) (A : Nat → Prop) : Array Value → State → Outcome → State → Prop := va_Qi (fun (r : Int32) (u : Pic) => (r, u) = res) (fun u t => va_P (dC, dI) vwCl (wMo cI aM u hs) t.heap) A
set_option maxHeartbeats 4000000 in
set_option maxRecDepth 100000 in
theorem met_X7_clearBuffer (l : Launch) (dC : Nat → ClassId) (dI : Nat → Nat → Nat) (cI cZ cS : ClassId) (aM : Nat → Nat) (M : Pic) (hs : Int64) (sz : Nat)  (res : Int32 × Pic) (hR : f7_clearBuffer M = some res) : Met l yX7_clearBuffer wsX7_clearBuffer rm_X7_clearBuffer (va_Pc [.ref (aM 0)] (pW (dC, dI) (tyS cI cZ cS) (wMo cI aM M hs) sz)) (q_X7_clearBuffer dC dI cI cZ cS aM hs res (va_A (wMo cI aM M hs) sz)) 0 0 (va_A (wMo cI aM M hs) sz) := by
  refine Met.ofW (cc := cX7_clearBuffer) (maxL := 2) (ret := (some .int)) (by decide) rfl ?_
  intro p e s m args below meth c s₁ B hml hv
  obtain ⟨rfl, hsz, hP, hK, hD0, hN⟩ := hv
  have hx := B.exec
  have hb := B.bytes
  have hr := B.returns
  have hts := atoms_spec (ws := wsX7_clearBuffer) B.pre
  have hown : s.vm.findClass RX7 = some m.cls := findClass_of_methodNamed B.named
  have hlocks := B.notSynchronized
  subst hsz
  have hD := hD0.self (sz := s.heap.size)
  generalize hAe : va_A (wMo cI aM M hs) s.heap.size = A at hD ⊢
  have hA : ∀ q : Nat, s.heap.size ≤ q → A q := fun q h => by rw [← hAe]; exact Or.inr h
  have hS : va_S A s.heap s.heap [] := va_S.rf
  have hP : va_P (dC, dI) vwCl (wMo cI aM M hs) s.heap := hP
  rw [f7_clearBuffer] at hR
  have hin7 : ∀ w ∈ wsX70, w ∈ wsX7_clearBuffer := by decide +kernel
  have hl := lv_entry ([.ref (aM 0)]) (n := 2) (Nat.le_of_ble_eq_true rfl)
  rw [lg_entry_eq]
  generalize (lg_sl ([.ref (aM 0)]) ++ List.replicate (2 - (lg_sl ([.ref (aM 0)])).length) Slot.unset).toArray = ls at hl ⊢
  have hl : lv_has ls 2 [(0, .ref (aM 0))] := hl
  refine lv_aload_n hx hb dX7_clearBuffer_0 rfl (lv_at hl 0 rfl) ?_
  refine lv_iconst (v := (0 : Int32)) hx hb dX7_clearBuffer_1 (by decide) ?_
  refine va_put (D := (dC, dI)) (ci := 7) (v := .int (0 : Int32)) (ty := .int) (C := RX7) (T := TX7) (N := 15) hx hb hts hin7 tyX7 tyX7_ok nmX7 hown hK hP hD hS 0 rfl rfl 7 (by decide) (hw_ hts 1 rfl) (fun _ h9 => h9) rfl (by decide +kernel) rfl rfl (Nat.le_of_ble_eq_true rfl) dX7_clearBuffer_2 (fun H1 locs hP hD hS => ?_)
  have hP : va_P (dC, dI) vwCl (wMo cI aM (pset M 7 (fun _ => (0 : Int32))) hs) H1 := hP
  have hD : va_D A (wMo cI aM (pset M 7 (fun _ => (0 : Int32))) hs) := hD
  refine lv_aload_n hx hb dX7_clearBuffer_5 rfl (lv_at hl 0 rfl) ?_
  refine va_get (D := (dC, dI)) (ci := 7) (v := .int ((M 5) 0)) (C := RX7) (T := TX7) (N := 15) hx hb hts hin7 hown hK hP 0 rfl rfl 5 (by decide) (hw_ hts 2 rfl) (fun _ h9 => h9) rfl dX7_clearBuffer_6 ?_
  refine lv_topi (fun v1 hv1 => ?_)
  have hR := bd_n hv1 hR
  refine lv_istore_n (lv' := [(1, .int v1), (0, .ref (aM 0))]) hx hb dX7_clearBuffer_9 rfl hl (by decide) rfl (fun ls hl => ?_)
  refine lv_aload_n hx hb dX7_clearBuffer_10 rfl (lv_at hl 1 rfl) ?_
  refine lv_iconst (v := (0 : Int32)) hx hb dX7_clearBuffer_11 (by decide) ?_
  refine va_put (D := (dC, dI)) (ci := 7) (v := .int (0 : Int32)) (ty := .int) (C := RX7) (T := TX7) (N := 15) hx hb hts hin7 tyX7 tyX7_ok nmX7 hown hK hP hD hS 0 rfl rfl 5 (by decide) (hw_ hts 2 rfl) (fun _ h9 => h9) rfl (by decide +kernel) rfl rfl (Nat.le_of_ble_eq_true rfl) dX7_clearBuffer_12 (fun H2 locs hP hD hS => ?_)
  have hP : va_P (dC, dI) vwCl (wMo cI aM (pset (pset M 5 (fun _ => (0 : Int32))) 7 (fun _ => (0 : Int32))) hs) H2 := hP
  have hD : va_D A (wMo cI aM (pset (pset M 5 (fun _ => (0 : Int32))) 7 (fun _ => (0 : Int32))) hs) := hD
  refine lv_iload_n hx hb dX7_clearBuffer_15 rfl (lv_at hl 0 rfl) ?_
  exact W.iret (v := v1) hx hb hr (fun t ht hW => ⟨⟨v1, (pset (pset M 5 (fun _ => (0 : Int32))) 7 (fun _ => (0 : Int32))), rfl, Option.some.inj hR, P_at ht hP⟩, hS.F ht⟩) hS.2.2 dX7_clearBuffer_16
abbrev rm_X7_takesDigit : Room := { frames := 2, cells := 0, slots := 0, locals := 42 }
abbrev q_X7_takesDigit (dC : Nat → ClassId) (dI : Nat → Nat → Nat) (cI cZ cS : ClassId) (aM : Nat → Nat) (hs : Int64) (res : Int32 × Pic) (A : Nat → Prop) : Array Value → State → Outcome → State → Prop := va_Qi (fun (r : Int32) (u : Pic) => (r, u) = res ∧ narrow .boolean (.int r) = .int r) (fun u t => va_P (dC, dI) vwCl (wMo cI aM u hs) t.heap) A
set_option maxHeartbeats 4000000 in
set_option maxRecDepth 100000 in
theorem met_X7_takesDigit (l : Launch) (dC : Nat → ClassId) (dI : Nat → Nat → Nat) (cI cZ cS : ClassId) (aM : Nat → Nat) (M : Pic) (hs : Int64) (sz : Nat) (p1 : Int32) (res : Int32 × Pic) (hR : f7_takesDigit M p1 = some res) : Met l yX7_takesDigit wsX7_takesDigit rm_X7_takesDigit (va_Pc [.ref (aM 0), .int p1] (pW (dC, dI) (tyS cI cZ cS) (wMo cI aM M hs) sz)) (q_X7_takesDigit dC dI cI cZ cS aM hs res (va_A (wMo cI aM M hs) sz)) 0 0 (va_A (wMo cI aM M hs) sz) := by
  refine Met.ofW (cc := cX7_takesDigit) (maxL := 4) (ret := (some .boolean)) (by decide) rfl ?_
  intro p e s m args below meth c s₁ B hml hv
  obtain ⟨rfl, hsz, hP, hK, hD0, hN⟩ := hv
  have hx := B.exec
  have hb := B.bytes
  have hr := B.returns
  have hts := atoms_spec (ws := wsX7_takesDigit) B.pre
  have hown : s.vm.findClass RX7 = some m.cls := findClass_of_methodNamed B.named
  have hlocks := B.notSynchronized
  subst hsz
  have hD := hD0.self (sz := s.heap.size)
  generalize hAe : va_A (wMo cI aM M hs) s.heap.size = A at hD ⊢
  have hA : ∀ q : Nat, s.heap.size ≤ q → A q := fun q h => by rw [← hAe]; exact Or.inr h
  have hS : va_S A s.heap s.heap [] := va_S.rf
  have hP : va_P (dC, dI) vwCl (wMo cI aM M hs) s.heap := hP
  rw [f7_takesDigit] at hR
  have hin7 : ∀ w ∈ wsX70, w ∈ wsX7_takesDigit := by decide +kernel
  have hl := lv_entry ([.ref (aM 0), .int p1]) (n := 4) (Nat.le_of_ble_eq_true rfl)
  rw [lg_entry_eq]
  generalize (lg_sl ([.ref (aM 0), .int p1]) ++ List.replicate (4 - (lg_sl ([.ref (aM 0), .int p1])).length) Slot.unset).toArray = ls at hl ⊢
  have hl : lv_has ls 4 [(0, .ref (aM 0)), (1, .int p1)] := hl
  refine lv_aload_n hx hb dX7_takesDigit_0 rfl (lv_at hl 0 rfl) ?_
  refine va_get (D := (dC, dI)) (ci := 7) (v := .int ((M 12) 0)) (C := RX7) (T := TX7) (N := 15) hx hb hts hin7 hown hK hP 0 rfl rfl 12 (by decide) (hw_ hts 1 rfl) (fun _ h9 => h9) rfl dX7_takesDigit_1 ?_
  refine lv_iconst (v := (-1 : Int32)) hx hb dX7_takesDigit_4 (by decide) ?_
  refine lv_icmp_ne (tgt := 12) hx hb dX7_takesDigit_5 (by decide) (fun c_1 => ?_) (fun c_1 => ?_)
  · rw [if_neg c_1] at hR
    refine lv_bipush (v := (10 : Int32)) hx hb dX7_takesDigit_12 (by decide) ?_
    refine lv_aload_n hx hb dX7_takesDigit_14 rfl (lv_at hl 0 rfl) ?_
    refine va_get (D := (dC, dI)) (ci := 7) (v := .int ((M 12) 0)) (C := RX7) (T := TX7) (N := 15) hx hb hts hin7 hown hK hP 0 rfl rfl 12 (by decide) (hw_ hts 1 rfl) (fun _ h9 => h9) rfl dX7_takesDigit_15 ?_
    refine lv_imul hx hb dX7_takesDigit_18 ?_
    refine lv_iload_n hx hb dX7_takesDigit_19 rfl (lv_at hl 1 rfl) ?_
    refine lv_iadd hx hb dX7_takesDigit_20 ?_
    refine lv_topi (fun v2 hv2 => ?_)
    have hR := bd_n hv2 hR
    refine lv_istore_n (lv' := [(2, .int v2), (0, .ref (aM 0)), (1, .int p1)]) hx hb dX7_takesDigit_21 rfl hl (by decide) rfl (fun ls hl => ?_)
    refine lv_iload_n hx hb dX7_takesDigit_22 rfl (lv_at hl 2 rfl) ?_
    refine lv_iconst (v := (0 : Int32)) hx hb dX7_takesDigit_23 (by decide) ?_
    refine lv_bipush (v := (9 : Int32)) hx hb dX7_takesDigit_24 (by decide) ?_
    refine va_calli (va_runS (As := [.int p1, .int (0 : Int32), .int (9 : Int32)]) (rest := []) ⟨hx, hb, hml, hown, hts⟩ (met_X7_within l dC dI cI cZ cS s.heap.size p1 (0 : Int32) (9 : Int32)) (va_cwS 3 hts gX7_takesDigit_X7_within rfl rfl rfl (by decide +kernel) ⟨Nat.le_of_ble_eq_true rfl, Nat.le_of_ble_eq_true rfl⟩) (pS (wc := []) hK hP hD hN [] rfl (by decide)) rfl rfl hl.1 rfl (lv_room (Nat.le_of_ble_eq_true rfl)) dX7_takesDigit_26 ⟨Nat.zero_le _, Nat.zero_le _⟩) hS (fun q _ h => a0_in hS hA q h) (a0_in hS hA) (fun r3 u t H1 locs ht hvm hw hB hz1 hk1 hS => ?_)
    obtain ⟨hw, nb4⟩ := hw
    subst hw
    have hP := rdk hP hk1
    refine lv_if_eq (tgt := 50) hx hb dX7_takesDigit_29 (by decide) (fun c_5 => ?_) (fun c_5 => ?_)
    · rw [if_pos c_5] at hR
      refine lv_iconst (v := (0 : Int32)) hx hb dX7_takesDigit_50 (by decide) ?_
      refine lv_istore_n (lv' := [(3, .int (0 : Int32)), (2, .int v2), (0, .ref (aM 0)), (1, .int p1)]) hx hb dX7_takesDigit_51 rfl hl (by decide) rfl (fun ls hl => ?_)
      refine lv_aload_n hx hb dX7_takesDigit_52 rfl (lv_at hl 2 rfl) ?_
      refine lv_iload_n hx hb dX7_takesDigit_53 rfl (lv_at hl 0 rfl) ?_
      refine lv_if_eq (tgt := 61) hx hb dX7_takesDigit_54 (by decide) (fun _ => ?_) (fun q => absurd (by decide) q)
      refine lv_aload_n hx hb dX7_takesDigit_61 rfl (lv_at hl 2 rfl) ?_
      refine va_get (D := (dC, dI)) (ci := 7) (v := .int ((M 12) 0)) (C := RX7) (T := TX7) (N := 15) hx hb hts hin7 hown hK hP 0 rfl rfl 12 (by decide) (hw_ hts 1 rfl) (fun _ h9 => h9) rfl dX7_takesDigit_62 ?_
      refine va_put (D := (dC, dI)) (ci := 7) (v := .int ((M 12) 0)) (ty := .int) (C := RX7) (T := TX7) (N := 15) hx hb hts hin7 tyX7 tyX7_ok nmX7 hown hK hP hD hS 0 rfl rfl 12 (by decide) (hw_ hts 1 rfl) (fun _ h9 => h9) rfl (by decide +kernel) rfl rfl (Nat.le_of_ble_eq_true rfl) dX7_takesDigit_65 (fun H2 locs hP hD hS => ?_)
      have hP : va_P (dC, dI) vwCl (wMo cI aM (pset M 12 (fun _ => ((M 12) 0))) hs) H2 := hP
      have hD : va_D A (wMo cI aM (pset M 12 (fun _ => ((M 12) 0))) hs) := hD
      obtain ⟨Mb6, hMb6⟩ : ∃ z : Pic, z = (pset M 12 (fun _ => ((M 12) 0))) := ⟨_, rfl⟩
      rw [← hMb6] at hP hD
      have hR := bd_n hMb6 hR
      refine lv_iload_n hx hb dX7_takesDigit_68 rfl (lv_at hl 0 rfl) ?_
      exact W.zret (v := (0 : Int32)) (ty := .boolean) hx hb hr rfl (fun t ht hW => ⟨⟨(0 : Int32), Mb6, rfl, ⟨Option.some.inj hR, rfl⟩, P_at ht hP⟩, hS.F ht⟩) hS.2.2 dX7_takesDigit_69
    · rw [if_neg c_5] at hR
      refine lv_aload_n hx hb dX7_takesDigit_32 rfl (lv_at hl 1 rfl) ?_
      refine va_get (D := (dC, dI)) (ci := 7) (v := .int ((M 12) 0)) (C := RX7) (T := TX7) (N := 15) hx hb hts hin7 hown hK hP 0 rfl rfl 12 (by decide) (hw_ hts 1 rfl) (fun _ h9 => h9) rfl dX7_takesDigit_33 ?_
      refine lv_if_eq (tgt := 50) hx hb dX7_takesDigit_36 (by decide) (fun c_7 => ?_) (fun c_7 => ?_)
      · rw [if_pos c_7] at hR
        refine lv_iconst (v := (0 : Int32)) hx hb dX7_takesDigit_50 (by decide) ?_
        refine lv_istore_n (lv' := [(3, .int (0 : Int32)), (2, .int v2), (0, .ref (aM 0)), (1, .int p1)]) hx hb dX7_takesDigit_51 rfl hl (by decide) rfl (fun ls hl => ?_)
        refine lv_aload_n hx hb dX7_takesDigit_52 rfl (lv_at hl 2 rfl) ?_
        refine lv_iload_n hx hb dX7_takesDigit_53 rfl (lv_at hl 0 rfl) ?_
        refine lv_if_eq (tgt := 61) hx hb dX7_takesDigit_54 (by decide) (fun _ => ?_) (fun q => absurd (by decide) q)
        refine lv_aload_n hx hb dX7_takesDigit_61 rfl (lv_at hl 2 rfl) ?_
        refine va_get (D := (dC, dI)) (ci := 7) (v := .int ((M 12) 0)) (C := RX7) (T := TX7) (N := 15) hx hb hts hin7 hown hK hP 0 rfl rfl 12 (by decide) (hw_ hts 1 rfl) (fun _ h9 => h9) rfl dX7_takesDigit_62 ?_
        refine va_put (D := (dC, dI)) (ci := 7) (v := .int ((M 12) 0)) (ty := .int) (C := RX7) (T := TX7) (N := 15) hx hb hts hin7 tyX7 tyX7_ok nmX7 hown hK hP hD hS 0 rfl rfl 12 (by decide) (hw_ hts 1 rfl) (fun _ h9 => h9) rfl (by decide +kernel) rfl rfl (Nat.le_of_ble_eq_true rfl) dX7_takesDigit_65 (fun H2 locs hP hD hS => ?_)
        have hP : va_P (dC, dI) vwCl (wMo cI aM (pset M 12 (fun _ => ((M 12) 0))) hs) H2 := hP
        have hD : va_D A (wMo cI aM (pset M 12 (fun _ => ((M 12) 0))) hs) := hD
        obtain ⟨Mb8, hMb8⟩ : ∃ z : Pic, z = (pset M 12 (fun _ => ((M 12) 0))) := ⟨_, rfl⟩
        rw [← hMb8] at hP hD
        have hR := bd_n hMb8 hR
        refine lv_iload_n hx hb dX7_takesDigit_68 rfl (lv_at hl 0 rfl) ?_
        exact W.zret (v := (0 : Int32)) (ty := .boolean) hx hb hr rfl (fun t ht hW => ⟨⟨(0 : Int32), Mb8, rfl, ⟨Option.some.inj hR, rfl⟩, P_at ht hP⟩, hS.F ht⟩) hS.2.2 dX7_takesDigit_69
      · rw [if_neg c_7] at hR
        refine lv_iload_n hx hb dX7_takesDigit_39 rfl (lv_at hl 0 rfl) ?_
        refine va_calli (va_runS (As := [.int v2]) (rest := []) ⟨hx, hb, hml, hown, hts⟩ (met_X7_isDay l dC dI cI cZ cS H1.size v2) (va_cwS 1 hts gX7_takesDigit_X7_isDay rfl rfl rfl (by decide +kernel) ⟨Nat.le_of_ble_eq_true rfl, Nat.le_of_ble_eq_true rfl⟩) (pS (wc := []) hK hP hD hN [] rfl (by decide)) rfl rfl hl.1 rfl (lv_room (Nat.le_of_ble_eq_true rfl)) dX7_takesDigit_40 ⟨Nat.zero_le _, Nat.zero_le _⟩) hS (fun q _ h => a0_in hS hA q h) (a0_in hS hA) (fun r9 u t H2 locs ht hvm hw hB hz1 hk1 hS => ?_)
        obtain ⟨hw, nb10⟩ := hw
        subst hw
        have hP := rdk hP hk1
        refine lv_if_eq (tgt := 50) hx hb dX7_takesDigit_43 (by decide) (fun c_11 => ?_) (fun c_11 => ?_)
        · rw [if_pos c_11] at hR
          refine lv_iconst (v := (0 : Int32)) hx hb dX7_takesDigit_50 (by decide) ?_
          refine lv_istore_n (lv' := [(3, .int (0 : Int32)), (2, .int v2), (0, .ref (aM 0)), (1, .int p1)]) hx hb dX7_takesDigit_51 rfl hl (by decide) rfl (fun ls hl => ?_)
          refine lv_aload_n hx hb dX7_takesDigit_52 rfl (lv_at hl 2 rfl) ?_
          refine lv_iload_n hx hb dX7_takesDigit_53 rfl (lv_at hl 0 rfl) ?_
          refine lv_if_eq (tgt := 61) hx hb dX7_takesDigit_54 (by decide) (fun _ => ?_) (fun q => absurd (by decide) q)
          refine lv_aload_n hx hb dX7_takesDigit_61 rfl (lv_at hl 2 rfl) ?_
          refine va_get (D := (dC, dI)) (ci := 7) (v := .int ((M 12) 0)) (C := RX7) (T := TX7) (N := 15) hx hb hts hin7 hown hK hP 0 rfl rfl 12 (by decide) (hw_ hts 1 rfl) (fun _ h9 => h9) rfl dX7_takesDigit_62 ?_
          refine va_put (D := (dC, dI)) (ci := 7) (v := .int ((M 12) 0)) (ty := .int) (C := RX7) (T := TX7) (N := 15) hx hb hts hin7 tyX7 tyX7_ok nmX7 hown hK hP hD hS 0 rfl rfl 12 (by decide) (hw_ hts 1 rfl) (fun _ h9 => h9) rfl (by decide +kernel) rfl rfl (Nat.le_of_ble_eq_true rfl) dX7_takesDigit_65 (fun H3 locs hP hD hS => ?_)
          have hP : va_P (dC, dI) vwCl (wMo cI aM (pset M 12 (fun _ => ((M 12) 0))) hs) H3 := hP
          have hD : va_D A (wMo cI aM (pset M 12 (fun _ => ((M 12) 0))) hs) := hD
          obtain ⟨Mb12, hMb12⟩ : ∃ z : Pic, z = (pset M 12 (fun _ => ((M 12) 0))) := ⟨_, rfl⟩
          rw [← hMb12] at hP hD
          have hR := bd_n hMb12 hR
          refine lv_iload_n hx hb dX7_takesDigit_68 rfl (lv_at hl 0 rfl) ?_
          exact W.zret (v := (0 : Int32)) (ty := .boolean) hx hb hr rfl (fun t ht hW => ⟨⟨(0 : Int32), Mb12, rfl, ⟨Option.some.inj hR, rfl⟩, P_at ht hP⟩, hS.F ht⟩) hS.2.2 dX7_takesDigit_69
        · rw [if_neg c_11] at hR
          refine lv_iconst (v := (1 : Int32)) hx hb dX7_takesDigit_46 (by decide) ?_
          refine lv_goto (tgt := 51) hx hb dX7_takesDigit_47 (by decide) ?_
          refine lv_istore_n (lv' := [(3, .int (1 : Int32)), (2, .int v2), (0, .ref (aM 0)), (1, .int p1)]) hx hb dX7_takesDigit_51 rfl hl (by decide) rfl (fun ls hl => ?_)
          refine lv_aload_n hx hb dX7_takesDigit_52 rfl (lv_at hl 2 rfl) ?_
          refine lv_iload_n hx hb dX7_takesDigit_53 rfl (lv_at hl 0 rfl) ?_
          refine lv_if_eq (tgt := 61) hx hb dX7_takesDigit_54 (by decide) (fun q => absurd q (by decide)) (fun _ => ?_)
          refine lv_iload_n hx hb dX7_takesDigit_57 rfl (lv_at hl 1 rfl) ?_
          refine lv_goto (tgt := 65) hx hb dX7_takesDigit_58 (by decide) ?_
          refine va_put (D := (dC, dI)) (ci := 7) (v := .int v2) (ty := .int) (C := RX7) (T := TX7) (N := 15) hx hb hts hin7 tyX7 tyX7_ok nmX7 hown hK hP hD hS 0 rfl rfl 12 (by decide) (hw_ hts 1 rfl) (fun _ h9 => h9) rfl (by decide +kernel) rfl rfl (Nat.le_of_ble_eq_true rfl) dX7_takesDigit_65 (fun H3 locs hP hD hS => ?_)
          have hP : va_P (dC, dI) vwCl (wMo cI aM (pset M 12 (fun _ => v2)) hs) H3 := hP
          have hD : va_D A (wMo cI aM (pset M 12 (fun _ => v2)) hs) := hD
          obtain ⟨Mb13, hMb13⟩ : ∃ z : Pic, z = (pset M 12 (fun _ => v2)) := ⟨_, rfl⟩
          rw [← hMb13] at hP hD
          have hR := bd_n hMb13 hR
          refine lv_iload_n hx hb dX7_takesDigit_68 rfl (lv_at hl 0 rfl) ?_
          exact W.zret (v := (1 : Int32)) (ty := .boolean) hx hb hr rfl (fun t ht hW => ⟨⟨(1 : Int32), Mb13, rfl, ⟨Option.some.inj hR, rfl⟩, P_at ht hP⟩, hS.F ht⟩) hS.2.2 dX7_takesDigit_69
  · rw [if_pos c_1] at hR
    refine lv_iload_n hx hb dX7_takesDigit_8 rfl (lv_at hl 1 rfl) ?_
    refine lv_goto (tgt := 21) hx hb dX7_takesDigit_9 (by decide) ?_
    refine lv_istore_n (lv' := [(2, .int p1), (0, .ref (aM 0)), (1, .int p1)]) hx hb dX7_takesDigit_21 rfl hl (by decide) rfl (fun ls hl => ?_)
    refine lv_iload_n hx hb dX7_takesDigit_22 rfl (lv_at hl 2 rfl) ?_
    refine lv_iconst (v := (0 : Int32)) hx hb dX7_takesDigit_23 (by decide) ?_
    refine lv_bipush (v := (9 : Int32)) hx hb dX7_takesDigit_24 (by decide) ?_
    refine va_calli (va_runS (As := [.int p1, .int (0 : Int32), .int (9 : Int32)]) (rest := []) ⟨hx, hb, hml, hown, hts⟩ (met_X7_within l dC dI cI cZ cS s.heap.size p1 (0 : Int32) (9 : Int32)) (va_cwS 3 hts gX7_takesDigit_X7_within rfl rfl rfl (by decide +kernel) ⟨Nat.le_of_ble_eq_true rfl, Nat.le_of_ble_eq_true rfl⟩) (pS (wc := []) hK hP hD hN [] rfl (by decide)) rfl rfl hl.1 rfl (lv_room (Nat.le_of_ble_eq_true rfl)) dX7_takesDigit_26 ⟨Nat.zero_le _, Nat.zero_le _⟩) hS (fun q _ h => a0_in hS hA q h) (a0_in hS hA) (fun r14 u t H1 locs ht hvm hw hB hz1 hk1 hS => ?_)
    obtain ⟨hw, nb15⟩ := hw
    subst hw
    have hP := rdk hP hk1
    refine lv_if_eq (tgt := 50) hx hb dX7_takesDigit_29 (by decide) (fun c_16 => ?_) (fun c_16 => ?_)
    · rw [if_pos c_16] at hR
      refine lv_iconst (v := (0 : Int32)) hx hb dX7_takesDigit_50 (by decide) ?_
      refine lv_istore_n (lv' := [(3, .int (0 : Int32)), (2, .int p1), (0, .ref (aM 0)), (1, .int p1)]) hx hb dX7_takesDigit_51 rfl hl (by decide) rfl (fun ls hl => ?_)
      refine lv_aload_n hx hb dX7_takesDigit_52 rfl (lv_at hl 2 rfl) ?_
      refine lv_iload_n hx hb dX7_takesDigit_53 rfl (lv_at hl 0 rfl) ?_
      refine lv_if_eq (tgt := 61) hx hb dX7_takesDigit_54 (by decide) (fun _ => ?_) (fun q => absurd (by decide) q)
      refine lv_aload_n hx hb dX7_takesDigit_61 rfl (lv_at hl 2 rfl) ?_
      refine va_get (D := (dC, dI)) (ci := 7) (v := .int ((M 12) 0)) (C := RX7) (T := TX7) (N := 15) hx hb hts hin7 hown hK hP 0 rfl rfl 12 (by decide) (hw_ hts 1 rfl) (fun _ h9 => h9) rfl dX7_takesDigit_62 ?_
      refine va_put (D := (dC, dI)) (ci := 7) (v := .int ((M 12) 0)) (ty := .int) (C := RX7) (T := TX7) (N := 15) hx hb hts hin7 tyX7 tyX7_ok nmX7 hown hK hP hD hS 0 rfl rfl 12 (by decide) (hw_ hts 1 rfl) (fun _ h9 => h9) rfl (by decide +kernel) rfl rfl (Nat.le_of_ble_eq_true rfl) dX7_takesDigit_65 (fun H2 locs hP hD hS => ?_)
      have hP : va_P (dC, dI) vwCl (wMo cI aM (pset M 12 (fun _ => ((M 12) 0))) hs) H2 := hP
      have hD : va_D A (wMo cI aM (pset M 12 (fun _ => ((M 12) 0))) hs) := hD
      obtain ⟨Mb17, hMb17⟩ : ∃ z : Pic, z = (pset M 12 (fun _ => ((M 12) 0))) := ⟨_, rfl⟩
      rw [← hMb17] at hP hD
      have hR := bd_n hMb17 hR
      refine lv_iload_n hx hb dX7_takesDigit_68 rfl (lv_at hl 0 rfl) ?_
      exact W.zret (v := (0 : Int32)) (ty := .boolean) hx hb hr rfl (fun t ht hW => ⟨⟨(0 : Int32), Mb17, rfl, ⟨Option.some.inj hR, rfl⟩, P_at ht hP⟩, hS.F ht⟩) hS.2.2 dX7_takesDigit_69
    · rw [if_neg c_16] at hR
      refine lv_aload_n hx hb dX7_takesDigit_32 rfl (lv_at hl 1 rfl) ?_
      refine va_get (D := (dC, dI)) (ci := 7) (v := .int ((M 12) 0)) (C := RX7) (T := TX7) (N := 15) hx hb hts hin7 hown hK hP 0 rfl rfl 12 (by decide) (hw_ hts 1 rfl) (fun _ h9 => h9) rfl dX7_takesDigit_33 ?_
      refine lv_if_eq (tgt := 50) hx hb dX7_takesDigit_36 (by decide) (fun c_18 => ?_) (fun c_18 => ?_)
      · rw [if_pos c_18] at hR
        refine lv_iconst (v := (0 : Int32)) hx hb dX7_takesDigit_50 (by decide) ?_
        refine lv_istore_n (lv' := [(3, .int (0 : Int32)), (2, .int p1), (0, .ref (aM 0)), (1, .int p1)]) hx hb dX7_takesDigit_51 rfl hl (by decide) rfl (fun ls hl => ?_)
        refine lv_aload_n hx hb dX7_takesDigit_52 rfl (lv_at hl 2 rfl) ?_
        refine lv_iload_n hx hb dX7_takesDigit_53 rfl (lv_at hl 0 rfl) ?_
        refine lv_if_eq (tgt := 61) hx hb dX7_takesDigit_54 (by decide) (fun _ => ?_) (fun q => absurd (by decide) q)
        refine lv_aload_n hx hb dX7_takesDigit_61 rfl (lv_at hl 2 rfl) ?_
        refine va_get (D := (dC, dI)) (ci := 7) (v := .int ((M 12) 0)) (C := RX7) (T := TX7) (N := 15) hx hb hts hin7 hown hK hP 0 rfl rfl 12 (by decide) (hw_ hts 1 rfl) (fun _ h9 => h9) rfl dX7_takesDigit_62 ?_
        refine va_put (D := (dC, dI)) (ci := 7) (v := .int ((M 12) 0)) (ty := .int) (C := RX7) (T := TX7) (N := 15) hx hb hts hin7 tyX7 tyX7_ok nmX7 hown hK hP hD hS 0 rfl rfl 12 (by decide) (hw_ hts 1 rfl) (fun _ h9 => h9) rfl (by decide +kernel) rfl rfl (Nat.le_of_ble_eq_true rfl) dX7_takesDigit_65 (fun H2 locs hP hD hS => ?_)
        have hP : va_P (dC, dI) vwCl (wMo cI aM (pset M 12 (fun _ => ((M 12) 0))) hs) H2 := hP
        have hD : va_D A (wMo cI aM (pset M 12 (fun _ => ((M 12) 0))) hs) := hD
        obtain ⟨Mb19, hMb19⟩ : ∃ z : Pic, z = (pset M 12 (fun _ => ((M 12) 0))) := ⟨_, rfl⟩
        rw [← hMb19] at hP hD
        have hR := bd_n hMb19 hR
        refine lv_iload_n hx hb dX7_takesDigit_68 rfl (lv_at hl 0 rfl) ?_
        exact W.zret (v := (0 : Int32)) (ty := .boolean) hx hb hr rfl (fun t ht hW => ⟨⟨(0 : Int32), Mb19, rfl, ⟨Option.some.inj hR, rfl⟩, P_at ht hP⟩, hS.F ht⟩) hS.2.2 dX7_takesDigit_69
      · rw [if_neg c_18] at hR
        refine lv_iload_n hx hb dX7_takesDigit_39 rfl (lv_at hl 0 rfl) ?_
        refine va_calli (va_runS (As := [.int p1]) (rest := []) ⟨hx, hb, hml, hown, hts⟩ (met_X7_isDay l dC dI cI cZ cS H1.size p1) (va_cwS 1 hts gX7_takesDigit_X7_isDay rfl rfl rfl (by decide +kernel) ⟨Nat.le_of_ble_eq_true rfl, Nat.le_of_ble_eq_true rfl⟩) (pS (wc := []) hK hP hD hN [] rfl (by decide)) rfl rfl hl.1 rfl (lv_room (Nat.le_of_ble_eq_true rfl)) dX7_takesDigit_40 ⟨Nat.zero_le _, Nat.zero_le _⟩) hS (fun q _ h => a0_in hS hA q h) (a0_in hS hA) (fun r20 u t H2 locs ht hvm hw hB hz1 hk1 hS => ?_)
        obtain ⟨hw, nb21⟩ := hw
        subst hw
        have hP := rdk hP hk1
        refine lv_if_eq (tgt := 50) hx hb dX7_takesDigit_43 (by decide) (fun c_22 => ?_) (fun c_22 => ?_)
        · rw [if_pos c_22] at hR
          refine lv_iconst (v := (0 : Int32)) hx hb dX7_takesDigit_50 (by decide) ?_
          refine lv_istore_n (lv' := [(3, .int (0 : Int32)), (2, .int p1), (0, .ref (aM 0)), (1, .int p1)]) hx hb dX7_takesDigit_51 rfl hl (by decide) rfl (fun ls hl => ?_)
          refine lv_aload_n hx hb dX7_takesDigit_52 rfl (lv_at hl 2 rfl) ?_
          refine lv_iload_n hx hb dX7_takesDigit_53 rfl (lv_at hl 0 rfl) ?_
          refine lv_if_eq (tgt := 61) hx hb dX7_takesDigit_54 (by decide) (fun _ => ?_) (fun q => absurd (by decide) q)
          refine lv_aload_n hx hb dX7_takesDigit_61 rfl (lv_at hl 2 rfl) ?_
          refine va_get (D := (dC, dI)) (ci := 7) (v := .int ((M 12) 0)) (C := RX7) (T := TX7) (N := 15) hx hb hts hin7 hown hK hP 0 rfl rfl 12 (by decide) (hw_ hts 1 rfl) (fun _ h9 => h9) rfl dX7_takesDigit_62 ?_
          refine va_put (D := (dC, dI)) (ci := 7) (v := .int ((M 12) 0)) (ty := .int) (C := RX7) (T := TX7) (N := 15) hx hb hts hin7 tyX7 tyX7_ok nmX7 hown hK hP hD hS 0 rfl rfl 12 (by decide) (hw_ hts 1 rfl) (fun _ h9 => h9) rfl (by decide +kernel) rfl rfl (Nat.le_of_ble_eq_true rfl) dX7_takesDigit_65 (fun H3 locs hP hD hS => ?_)
          have hP : va_P (dC, dI) vwCl (wMo cI aM (pset M 12 (fun _ => ((M 12) 0))) hs) H3 := hP
          have hD : va_D A (wMo cI aM (pset M 12 (fun _ => ((M 12) 0))) hs) := hD
          obtain ⟨Mb23, hMb23⟩ : ∃ z : Pic, z = (pset M 12 (fun _ => ((M 12) 0))) := ⟨_, rfl⟩
          rw [← hMb23] at hP hD
          have hR := bd_n hMb23 hR
          refine lv_iload_n hx hb dX7_takesDigit_68 rfl (lv_at hl 0 rfl) ?_
          exact W.zret (v := (0 : Int32)) (ty := .boolean) hx hb hr rfl (fun t ht hW => ⟨⟨(0 : Int32), Mb23, rfl, ⟨Option.some.inj hR, rfl⟩, P_at ht hP⟩, hS.F ht⟩) hS.2.2 dX7_takesDigit_69
        · rw [if_neg c_22] at hR
          refine lv_iconst (v := (1 : Int32)) hx hb dX7_takesDigit_46 (by decide) ?_
          refine lv_goto (tgt := 51) hx hb dX7_takesDigit_47 (by decide) ?_
          refine lv_istore_n (lv' := [(3, .int (1 : Int32)), (2, .int p1), (0, .ref (aM 0)), (1, .int p1)]) hx hb dX7_takesDigit_51 rfl hl (by decide) rfl (fun ls hl => ?_)
          refine lv_aload_n hx hb dX7_takesDigit_52 rfl (lv_at hl 2 rfl) ?_
          refine lv_iload_n hx hb dX7_takesDigit_53 rfl (lv_at hl 0 rfl) ?_
          refine lv_if_eq (tgt := 61) hx hb dX7_takesDigit_54 (by decide) (fun q => absurd q (by decide)) (fun _ => ?_)
          refine lv_iload_n hx hb dX7_takesDigit_57 rfl (lv_at hl 1 rfl) ?_
          refine lv_goto (tgt := 65) hx hb dX7_takesDigit_58 (by decide) ?_
          refine va_put (D := (dC, dI)) (ci := 7) (v := .int p1) (ty := .int) (C := RX7) (T := TX7) (N := 15) hx hb hts hin7 tyX7 tyX7_ok nmX7 hown hK hP hD hS 0 rfl rfl 12 (by decide) (hw_ hts 1 rfl) (fun _ h9 => h9) rfl (by decide +kernel) rfl rfl (Nat.le_of_ble_eq_true rfl) dX7_takesDigit_65 (fun H3 locs hP hD hS => ?_)
          have hP : va_P (dC, dI) vwCl (wMo cI aM (pset M 12 (fun _ => p1)) hs) H3 := hP
          have hD : va_D A (wMo cI aM (pset M 12 (fun _ => p1)) hs) := hD
          obtain ⟨Mb24, hMb24⟩ : ∃ z : Pic, z = (pset M 12 (fun _ => p1)) := ⟨_, rfl⟩
          rw [← hMb24] at hP hD
          have hR := bd_n hMb24 hR
          refine lv_iload_n hx hb dX7_takesDigit_68 rfl (lv_at hl 0 rfl) ?_
          exact W.zret (v := (1 : Int32)) (ty := .boolean) hx hb hr rfl (fun t ht hW => ⟨⟨(1 : Int32), Mb24, rfl, ⟨Option.some.inj hR, rfl⟩, P_at ht hP⟩, hS.F ht⟩) hS.2.2 dX7_takesDigit_69
abbrev rm_X7_takes : Room := { frames := 3, cells := 0, slots := 0, locals := 65 }
abbrev q_X7_takes (dC : Nat → ClassId) (dI : Nat → Nat → Nat) (cI cZ cS : ClassId) (aM : Nat → Nat) (hs : Int64) (res : Int32 × Pic) (A : Nat → Prop) : Array Value → State → Outcome → State → Prop := va_Qi (fun (r : Int32) (u : Pic) => (r, u) = res ∧ narrow .boolean (.int r) = .int r) (fun u t => va_P (dC, dI) vwCl (wMo cI aM u hs) t.heap) A
set_option maxHeartbeats 4000000 in
set_option maxRecDepth 100000 in
theorem met_X7_takes (l : Launch) (dC : Nat → ClassId) (dI : Nat → Nat → Nat) (cI cZ cS : ClassId) (aM : Nat → Nat) (M : Pic) (hs : Int64) (sz : Nat) (p1 : Int32) (res : Int32 × Pic) (hR : f7_takes M p1 = some res) : Met l yX7_takes wsX7_takes rm_X7_takes (va_Pc [.ref (aM 0), .int p1] (pW (dC, dI) (tyS cI cZ cS) (wMo cI aM M hs) sz)) (q_X7_takes dC dI cI cZ cS aM hs res (va_A (wMo cI aM M hs) sz)) 0 0 (va_A (wMo cI aM M hs) sz) := by
  refine Met.ofW (cc := cX7_takes) (maxL := 2) (ret := (some .boolean)) (by decide) rfl ?_
  intro p e s m args below meth c s₁ B hml hv
  obtain ⟨rfl, hsz, hP, hK, hD0, hN⟩ := hv
  have hx := B.exec
  have hb := B.bytes
  have hr := B.returns
  have hts := atoms_spec (ws := wsX7_takes) B.pre
  have hown : s.vm.findClass RX7 = some m.cls := findClass_of_methodNamed B.named
  have hlocks := B.notSynchronized
  subst hsz
  have hD := hD0.self (sz := s.heap.size)
  generalize hAe : va_A (wMo cI aM M hs) s.heap.size = A at hD ⊢
  have hA : ∀ q : Nat, s.heap.size ≤ q → A q := fun q h => by rw [← hAe]; exact Or.inr h
  have hS : va_S A s.heap s.heap [] := va_S.rf
  have hP : va_P (dC, dI) vwCl (wMo cI aM M hs) s.heap := hP
  rw [f7_takes] at hR
  have hin7 : ∀ w ∈ wsX70, w ∈ wsX7_takes := by decide +kernel
  have hl := lv_entry ([.ref (aM 0), .int p1]) (n := 2) (Nat.le_of_ble_eq_true rfl)
  rw [lg_entry_eq]
  generalize (lg_sl ([.ref (aM 0), .int p1]) ++ List.replicate (2 - (lg_sl ([.ref (aM 0), .int p1])).length) Slot.unset).toArray = ls at hl ⊢
  have hl : lv_has ls 2 [(0, .ref (aM 0)), (1, .int p1)] := hl
  refine lv_aload_n hx hb dX7_takes_0 rfl (lv_at hl 0 rfl) ?_
  refine va_get (D := (dC, dI)) (ci := 7) (v := .int ((M 13) 0)) (C := RX7) (T := TX7) (N := 15) hx hb hts hin7 hown hK hP 0 rfl rfl 13 (by decide) (hw_ hts 1 rfl) (fun _ h9 => h9) rfl dX7_takes_1 ?_
  by_cases c_1 : ((M 13) 0) = 0
  · rw [if_pos c_1] at hR
    refine lv_tableIn (tgt := 36) hx hb dX7_takes_4 (by rw [c_1]; decide) (by rw [c_1]; decide) (by rw [c_1]; rfl) (by decide) ?_
    refine lv_aload_n hx hb dX7_takes_36 rfl (lv_at hl 0 rfl) ?_
    refine lv_iconst (v := (-1 : Int32)) hx hb dX7_takes_37 (by decide) ?_
    refine va_put (D := (dC, dI)) (ci := 7) (v := .int (-1 : Int32)) (ty := .int) (C := RX7) (T := TX7) (N := 15) hx hb hts hin7 tyX7 tyX7_ok nmX7 hown hK hP hD hS 0 rfl rfl 12 (by decide) (hw_ hts 2 rfl) (fun _ h9 => h9) rfl (by decide +kernel) rfl rfl (Nat.le_of_ble_eq_true rfl) dX7_takes_38 (fun H1 locs hP hD hS => ?_)
    have hP : va_P (dC, dI) vwCl (wMo cI aM (pset M 12 (fun _ => (-1 : Int32))) hs) H1 := hP
    have hD : va_D A (wMo cI aM (pset M 12 (fun _ => (-1 : Int32))) hs) := hD
    refine lv_aload_n hx hb dX7_takes_41 rfl (lv_at hl 0 rfl) ?_
    refine lv_iconst (v := (1 : Int32)) hx hb dX7_takes_42 (by decide) ?_
    refine va_put (D := (dC, dI)) (ci := 7) (v := .int (1 : Int32)) (ty := .int) (C := RX7) (T := TX7) (N := 15) hx hb hts hin7 tyX7 tyX7_ok nmX7 hown hK hP hD hS 0 rfl rfl 13 (by decide) (hw_ hts 1 rfl) (fun _ h9 => h9) rfl (by decide +kernel) rfl rfl (Nat.le_of_ble_eq_true rfl) dX7_takes_43 (fun H2 locs hP hD hS => ?_)
    have hP : va_P (dC, dI) vwCl (wMo cI aM (pset (pset M 12 (fun _ => (-1 : Int32))) 13 (fun _ => (1 : Int32))) hs) H2 := hP
    have hD : va_D A (wMo cI aM (pset (pset M 12 (fun _ => (-1 : Int32))) 13 (fun _ => (1 : Int32))) hs) := hD
    refine lv_iload_n hx hb dX7_takes_46 rfl (lv_at hl 1 rfl) ?_
    refine lv_bipush (v := (100 : Int32)) hx hb dX7_takes_47 (by decide) ?_
    refine lv_icmp_ne (tgt := 56) hx hb dX7_takes_49 (by decide) (fun c_2 => ?_) (fun c_2 => ?_)
    · rw [if_neg c_2] at hR
      refine lv_iconst (v := (0 : Int32)) hx hb dX7_takes_56 (by decide) ?_
      exact W.zret (v := (0 : Int32)) (ty := .boolean) hx hb hr rfl (fun t ht hW => ⟨⟨(0 : Int32), (pset (pset M 12 (fun _ => (-1 : Int32))) 13 (fun _ => (1 : Int32))), rfl, ⟨Option.some.inj hR, rfl⟩, P_at ht hP⟩, hS.F ht⟩) hS.2.2 dX7_takes_57
    · rw [if_pos c_2] at hR
      refine lv_iconst (v := (1 : Int32)) hx hb dX7_takes_52 (by decide) ?_
      refine lv_goto (tgt := 57) hx hb dX7_takes_53 (by decide) ?_
      exact W.zret (v := (1 : Int32)) (ty := .boolean) hx hb hr rfl (fun t ht hW => ⟨⟨(1 : Int32), (pset (pset M 12 (fun _ => (-1 : Int32))) 13 (fun _ => (1 : Int32))), rfl, ⟨Option.some.inj hR, rfl⟩, P_at ht hP⟩, hS.F ht⟩) hS.2.2 dX7_takes_57
  rw [if_neg c_1] at hR
  by_cases c_3 : ((M 13) 0) = 1
  · rw [if_pos c_3] at hR
    refine lv_tableIn (tgt := 116) hx hb dX7_takes_4 (by rw [c_3]; decide) (by rw [c_3]; decide) (by rw [c_3]; rfl) (by decide) ?_
    refine lv_iload_n hx hb dX7_takes_116 rfl (lv_at hl 1 rfl) ?_
    refine lv_bipush (v := (61 : Int32)) hx hb dX7_takes_117 (by decide) ?_
    refine lv_icmp_ne (tgt := 152) hx hb dX7_takes_119 (by decide) (fun c_4 => ?_) (fun c_4 => ?_)
    · rw [if_neg c_4] at hR
      refine lv_aload_n hx hb dX7_takes_152 rfl (lv_at hl 0 rfl) ?_
      refine lv_iload_n hx hb dX7_takes_153 rfl (lv_at hl 1 rfl) ?_
      refine lv_bipush (v := (48 : Int32)) hx hb dX7_takes_154 (by decide) ?_
      refine lv_isub hx hb dX7_takes_156 ?_
      obtain ⟨r5, u6, hc7, hR⟩ := ob2_e hR
      have hF := va_free (wc := wMo cI aM M hs) hD hS hA [0, 1, 2, 3, 4, 5, 6, 7, 8] rfl
      refine va_calli (va_runV (As := [.int (p1 - (48 : Int32))]) (rest := []) ⟨hx, hb, hml, hown, hts⟩ (met_X7_takesDigit l dC dI cI cZ cS aM M hs s.heap.size (p1 - (48 : Int32)) (r5, u6) hc7) (cwV 1 hts gX7_takes_X7_takesDigit rfl rfl rfl (by decide +kernel) ⟨Nat.le_of_ble_eq_true rfl, Nat.le_of_ble_eq_true rfl⟩) (pV (wc := wMo cI aM M hs) (ci := 7) (q0 := 0) hK hP hD hN [0, 1, 2, 3, 4, 5, 6, 7, 8] rfl (by decide) rfl rfl) rfl rfl hl.1 rfl (lv_room (Nat.le_of_ble_eq_true rfl)) dX7_takes_157 ⟨Nat.zero_le _, Nat.zero_le _⟩) hS (fun q _ h => hF q h) hF (fun r5 u6 t H1 locs ht hvm hw hB hz1 hk1 hS => ?_)
      obtain ⟨hw, nb8⟩ := hw
      try dsimp only at hw hB
      rw [ht] at hB
      cases hw
      have hP := wrk (w2 := wMo cI aM u6 hs) hP hD [0, 1, 2, 3, 4, 5, 6, 7, 8] rfl (by decide) hk1 hB rfl rfl
      have hD := D_addr (w1 := wMo cI aM u6 hs) hD rfl
      exact W.zret (v := r5) (ty := .boolean) hx hb hr nb8 (fun t ht hW => ⟨⟨r5, u6, rfl, ⟨Option.some.inj hR, nb8⟩, P_at ht hP⟩, hS.F ht⟩) hS.2.2 dX7_takes_160
    · rw [if_pos c_4] at hR
      refine lv_aload_n hx hb dX7_takes_122 rfl (lv_at hl 0 rfl) ?_
      refine va_get (D := (dC, dI)) (ci := 7) (v := .int ((M 12) 0)) (C := RX7) (T := TX7) (N := 15) hx hb hts hin7 hown hK hP 0 rfl rfl 12 (by decide) (hw_ hts 2 rfl) (fun _ h9 => h9) rfl dX7_takes_123 ?_
      refine lv_iconst (v := (-1 : Int32)) hx hb dX7_takes_126 (by decide) ?_
      refine lv_icmp_eq (tgt := 152) hx hb dX7_takes_127 (by decide) (fun c_9 => ?_) (fun c_9 => ?_)
      · rw [if_pos c_9] at hR
        refine lv_aload_n hx hb dX7_takes_152 rfl (lv_at hl 0 rfl) ?_
        refine lv_iload_n hx hb dX7_takes_153 rfl (lv_at hl 1 rfl) ?_
        refine lv_bipush (v := (48 : Int32)) hx hb dX7_takes_154 (by decide) ?_
        refine lv_isub hx hb dX7_takes_156 ?_
        obtain ⟨r10, u11, hc12, hR⟩ := ob2_e hR
        have hF := va_free (wc := wMo cI aM M hs) hD hS hA [0, 1, 2, 3, 4, 5, 6, 7, 8] rfl
        refine va_calli (va_runV (As := [.int (p1 - (48 : Int32))]) (rest := []) ⟨hx, hb, hml, hown, hts⟩ (met_X7_takesDigit l dC dI cI cZ cS aM M hs s.heap.size (p1 - (48 : Int32)) (r10, u11) hc12) (cwV 1 hts gX7_takes_X7_takesDigit rfl rfl rfl (by decide +kernel) ⟨Nat.le_of_ble_eq_true rfl, Nat.le_of_ble_eq_true rfl⟩) (pV (wc := wMo cI aM M hs) (ci := 7) (q0 := 0) hK hP hD hN [0, 1, 2, 3, 4, 5, 6, 7, 8] rfl (by decide) rfl rfl) rfl rfl hl.1 rfl (lv_room (Nat.le_of_ble_eq_true rfl)) dX7_takes_157 ⟨Nat.zero_le _, Nat.zero_le _⟩) hS (fun q _ h => hF q h) hF (fun r10 u11 t H1 locs ht hvm hw hB hz1 hk1 hS => ?_)
        obtain ⟨hw, nb13⟩ := hw
        try dsimp only at hw hB
        rw [ht] at hB
        cases hw
        have hP := wrk (w2 := wMo cI aM u11 hs) hP hD [0, 1, 2, 3, 4, 5, 6, 7, 8] rfl (by decide) hk1 hB rfl rfl
        have hD := D_addr (w1 := wMo cI aM u11 hs) hD rfl
        exact W.zret (v := r10) (ty := .boolean) hx hb hr nb13 (fun t ht hW => ⟨⟨r10, u11, rfl, ⟨Option.some.inj hR, nb13⟩, P_at ht hP⟩, hS.F ht⟩) hS.2.2 dX7_takes_160
      · rw [if_neg c_9] at hR
        refine lv_aload_n hx hb dX7_takes_130 rfl (lv_at hl 0 rfl) ?_
        refine va_get (D := (dC, dI)) (ci := 7) (v := .ref (aM 8)) (C := RX7) (T := TX7) (N := 15) hx hb hts hin7 hown hK hP 0 rfl rfl 10 (by decide) (hw_ hts 3 rfl) (fun _ h9 => h9) rfl dX7_takes_131 ?_
        refine lv_iconst (v := (2 : Int32)) hx hb dX7_takes_134 (by decide) ?_
        refine lv_aload_n hx hb dX7_takes_135 rfl (lv_at hl 0 rfl) ?_
        refine va_get (D := (dC, dI)) (ci := 7) (v := .int ((M 11) 0)) (C := RX7) (T := TX7) (N := 15) hx hb hts hin7 hown hK hP 0 rfl rfl 11 (by decide) (hw_ hts 4 rfl) (fun _ h9 => h9) rfl dX7_takes_136 ?_
        refine lv_imul hx hb dX7_takes_139 ?_
        refine lv_aload_n hx hb dX7_takes_140 rfl (lv_at hl 0 rfl) ?_
        refine va_get (D := (dC, dI)) (ci := 7) (v := .int ((M 12) 0)) (C := RX7) (T := TX7) (N := 15) hx hb hts hin7 hown hK hP 0 rfl rfl 12 (by decide) (hw_ hts 2 rfl) (fun _ h9 => h9) rfl dX7_takes_141 ?_
        obtain ⟨hix14, hR⟩ := ck_some hR
        refine va_iast (f := (M 10)) hx hb hK hP hD hS 8 0 rfl rfl hix14 dX7_takes_144 (fun H1 locs hP hD hS => ?_)
        have hP : va_P (dC, dI) vwCl (wMo cI aM (pset M 10 (upd (M 10) (ix ((2 : Int32) * ((M 11) 0))) ((M 12) 0))) hs) H1 := hP
        have hD : va_D A (wMo cI aM (pset M 10 (upd (M 10) (ix ((2 : Int32) * ((M 11) 0))) ((M 12) 0))) hs) := hD
        obtain ⟨Mb15, hMb15⟩ : ∃ z : Pic, z = (pset M 10 (upd (M 10) (ix ((2 : Int32) * ((M 11) 0))) ((M 12) 0))) := ⟨_, rfl⟩
        rw [← hMb15] at hP hD
        have hR := bd_n hMb15 hR
        refine lv_aload_n hx hb dX7_takes_145 rfl (lv_at hl 0 rfl) ?_
        refine lv_iconst (v := (2 : Int32)) hx hb dX7_takes_146 (by decide) ?_
        refine va_put (D := (dC, dI)) (ci := 7) (v := .int (2 : Int32)) (ty := .int) (C := RX7) (T := TX7) (N := 15) hx hb hts hin7 tyX7 tyX7_ok nmX7 hown hK hP hD hS 0 rfl rfl 13 (by decide) (hw_ hts 1 rfl) (fun _ h9 => h9) rfl (by decide +kernel) rfl rfl (Nat.le_of_ble_eq_true rfl) dX7_takes_147 (fun H2 locs hP hD hS => ?_)
        have hP : va_P (dC, dI) vwCl (wMo cI aM (pset Mb15 13 (fun _ => (2 : Int32))) hs) H2 := hP
        have hD : va_D A (wMo cI aM (pset Mb15 13 (fun _ => (2 : Int32))) hs) := hD
        refine lv_iconst (v := (1 : Int32)) hx hb dX7_takes_150 (by decide) ?_
        exact W.zret (v := (1 : Int32)) (ty := .boolean) hx hb hr rfl (fun t ht hW => ⟨⟨(1 : Int32), (pset Mb15 13 (fun _ => (2 : Int32))), rfl, ⟨Option.some.inj hR, rfl⟩, P_at ht hP⟩, hS.F ht⟩) hS.2.2 dX7_takes_151
  rw [if_neg c_3] at hR
  by_cases c_16 : ((M 13) 0) = 2
  · rw [if_pos c_16] at hR
    refine lv_tableIn (tgt := 58) hx hb dX7_takes_4 (by rw [c_16]; decide) (by rw [c_16]; decide) (by rw [c_16]; rfl) (by decide) ?_
    refine lv_aload_n hx hb dX7_takes_58 rfl (lv_at hl 0 rfl) ?_
    refine va_get (D := (dC, dI)) (ci := 7) (v := .ref (aM 8)) (C := RX7) (T := TX7) (N := 15) hx hb hts hin7 hown hK hP 0 rfl rfl 10 (by decide) (hw_ hts 3 rfl) (fun _ h9 => h9) rfl dX7_takes_59 ?_
    refine lv_iconst (v := (2 : Int32)) hx hb dX7_takes_62 (by decide) ?_
    refine lv_aload_n hx hb dX7_takes_63 rfl (lv_at hl 0 rfl) ?_
    refine va_get (D := (dC, dI)) (ci := 7) (v := .int ((M 11) 0)) (C := RX7) (T := TX7) (N := 15) hx hb hts hin7 hown hK hP 0 rfl rfl 11 (by decide) (hw_ hts 4 rfl) (fun _ h9 => h9) rfl dX7_takes_64 ?_
    refine lv_imul hx hb dX7_takes_67 ?_
    refine lv_iconst (v := (1 : Int32)) hx hb dX7_takes_68 (by decide) ?_
    refine lv_iadd hx hb dX7_takes_69 ?_
    refine lv_iload_n hx hb dX7_takes_70 rfl (lv_at hl 1 rfl) ?_
    refine lv_bipush (v := (97 : Int32)) hx hb dX7_takes_71 (by decide) ?_
    refine lv_isub hx hb dX7_takes_73 ?_
    obtain ⟨hix17, hR⟩ := ck_some hR
    refine va_iast (f := (M 10)) hx hb hK hP hD hS 8 0 rfl rfl hix17 dX7_takes_74 (fun H1 locs hP hD hS => ?_)
    have hP : va_P (dC, dI) vwCl (wMo cI aM (pset M 10 (upd (M 10) (ix (((2 : Int32) * ((M 11) 0)) + (1 : Int32))) (p1 - (97 : Int32)))) hs) H1 := hP
    have hD : va_D A (wMo cI aM (pset M 10 (upd (M 10) (ix (((2 : Int32) * ((M 11) 0)) + (1 : Int32))) (p1 - (97 : Int32)))) hs) := hD
    obtain ⟨Mb18, hMb18⟩ : ∃ z : Pic, z = (pset M 10 (upd (M 10) (ix (((2 : Int32) * ((M 11) 0)) + (1 : Int32))) (p1 - (97 : Int32)))) := ⟨_, rfl⟩
    rw [← hMb18] at hP hD
    have hR := bd_n hMb18 hR
    refine lv_aload_n hx hb dX7_takes_75 rfl (lv_at hl 0 rfl) ?_
    refine lv_iconst (v := (3 : Int32)) hx hb dX7_takes_76 (by decide) ?_
    refine va_put (D := (dC, dI)) (ci := 7) (v := .int (3 : Int32)) (ty := .int) (C := RX7) (T := TX7) (N := 15) hx hb hts hin7 tyX7 tyX7_ok nmX7 hown hK hP hD hS 0 rfl rfl 13 (by decide) (hw_ hts 1 rfl) (fun _ h9 => h9) rfl (by decide +kernel) rfl rfl (Nat.le_of_ble_eq_true rfl) dX7_takes_77 (fun H2 locs hP hD hS => ?_)
    have hP : va_P (dC, dI) vwCl (wMo cI aM (pset Mb18 13 (fun _ => (3 : Int32))) hs) H2 := hP
    have hD : va_D A (wMo cI aM (pset Mb18 13 (fun _ => (3 : Int32))) hs) := hD
    refine lv_iload_n hx hb dX7_takes_80 rfl (lv_at hl 1 rfl) ?_
    refine lv_bipush (v := (97 : Int32)) hx hb dX7_takes_81 (by decide) ?_
    refine lv_bipush (v := (108 : Int32)) hx hb dX7_takes_83 (by decide) ?_
    refine va_calli (va_runS (As := [.int p1, .int (97 : Int32), .int (108 : Int32)]) (rest := []) ⟨hx, hb, hml, hown, hts⟩ (met_X7_within l dC dI cI cZ cS H2.size p1 (97 : Int32) (108 : Int32)) (va_cwS 3 hts gX7_takes_X7_within rfl rfl rfl (by decide +kernel) ⟨Nat.le_of_ble_eq_true rfl, Nat.le_of_ble_eq_true rfl⟩) (pS (wc := []) hK hP hD hN [] rfl (by decide)) rfl rfl hl.1 rfl (lv_room (Nat.le_of_ble_eq_true rfl)) dX7_takes_85 ⟨Nat.zero_le _, Nat.zero_le _⟩) hS (fun q _ h => a0_in hS hA q h) (a0_in hS hA) (fun r19 u t H3 locs ht hvm hw hB hz1 hk1 hS => ?_)
    obtain ⟨hw, nb20⟩ := hw
    subst hw
    have hP := rdk hP hk1
    exact W.zret (v := (f7_within p1 (97 : Int32) (108 : Int32))) (ty := .boolean) hx hb hr nb20 (fun t ht hW => ⟨⟨(f7_within p1 (97 : Int32) (108 : Int32)), (pset Mb18 13 (fun _ => (3 : Int32))), rfl, ⟨Option.some.inj hR, nb20⟩, P_at ht hP⟩, hS.F ht⟩) hS.2.2 dX7_takes_88
  rw [if_neg c_16] at hR
  by_cases c_21 : ((M 13) 0) = 3
  · rw [if_pos c_21] at hR
    refine lv_tableIn (tgt := 89) hx hb dX7_takes_4 (by rw [c_21]; decide) (by rw [c_21]; decide) (by rw [c_21]; rfl) (by decide) ?_
    refine lv_aload_n hx hb dX7_takes_89 rfl (lv_at hl 0 rfl) ?_
    refine lv_dup hx hb dX7_takes_90 rfl ?_
    refine va_get (D := (dC, dI)) (ci := 7) (v := .int ((M 11) 0)) (C := RX7) (T := TX7) (N := 15) hx hb hts hin7 hown hK hP 0 rfl rfl 11 (by decide) (hw_ hts 4 rfl) (fun _ h9 => h9) rfl dX7_takes_91 ?_
    refine lv_iconst (v := (1 : Int32)) hx hb dX7_takes_94 (by decide) ?_
    refine lv_iadd hx hb dX7_takes_95 ?_
    refine va_put (D := (dC, dI)) (ci := 7) (v := .int (((M 11) 0) + (1 : Int32))) (ty := .int) (C := RX7) (T := TX7) (N := 15) hx hb hts hin7 tyX7 tyX7_ok nmX7 hown hK hP hD hS 0 rfl rfl 11 (by decide) (hw_ hts 4 rfl) (fun _ h9 => h9) rfl (by decide +kernel) rfl rfl (Nat.le_of_ble_eq_true rfl) dX7_takes_96 (fun H1 locs hP hD hS => ?_)
    have hP : va_P (dC, dI) vwCl (wMo cI aM (pset M 11 (fun _ => (((M 11) 0) + (1 : Int32)))) hs) H1 := hP
    have hD : va_D A (wMo cI aM (pset M 11 (fun _ => (((M 11) 0) + (1 : Int32)))) hs) := hD
    obtain ⟨Mb22, hMb22⟩ : ∃ z : Pic, z = (pset M 11 (fun _ => (((M 11) 0) + (1 : Int32)))) := ⟨_, rfl⟩
    rw [← hMb22] at hP hD
    have hR := bd_n hMb22 hR
    refine lv_aload_n hx hb dX7_takes_99 rfl (lv_at hl 0 rfl) ?_
    refine lv_iconst (v := (0 : Int32)) hx hb dX7_takes_100 (by decide) ?_
    refine va_put (D := (dC, dI)) (ci := 7) (v := .int (0 : Int32)) (ty := .int) (C := RX7) (T := TX7) (N := 15) hx hb hts hin7 tyX7 tyX7_ok nmX7 hown hK hP hD hS 0 rfl rfl 13 (by decide) (hw_ hts 1 rfl) (fun _ h9 => h9) rfl (by decide +kernel) rfl rfl (Nat.le_of_ble_eq_true rfl) dX7_takes_101 (fun H2 locs hP hD hS => ?_)
    have hP : va_P (dC, dI) vwCl (wMo cI aM (pset Mb22 13 (fun _ => (0 : Int32))) hs) H2 := hP
    have hD : va_D A (wMo cI aM (pset Mb22 13 (fun _ => (0 : Int32))) hs) := hD
    refine lv_iload_n hx hb dX7_takes_104 rfl (lv_at hl 1 rfl) ?_
    refine lv_bipush (v := (59 : Int32)) hx hb dX7_takes_105 (by decide) ?_
    refine lv_icmp_ne (tgt := 114) hx hb dX7_takes_107 (by decide) (fun c_23 => ?_) (fun c_23 => ?_)
    · rw [if_neg c_23] at hR
      refine lv_iconst (v := (0 : Int32)) hx hb dX7_takes_114 (by decide) ?_
      exact W.zret (v := (0 : Int32)) (ty := .boolean) hx hb hr rfl (fun t ht hW => ⟨⟨(0 : Int32), (pset Mb22 13 (fun _ => (0 : Int32))), rfl, ⟨Option.some.inj hR, rfl⟩, P_at ht hP⟩, hS.F ht⟩) hS.2.2 dX7_takes_115
    · rw [if_pos c_23] at hR
      refine lv_iconst (v := (1 : Int32)) hx hb dX7_takes_110 (by decide) ?_
      refine lv_goto (tgt := 115) hx hb dX7_takes_111 (by decide) ?_
      exact W.zret (v := (1 : Int32)) (ty := .boolean) hx hb hr rfl (fun t ht hW => ⟨⟨(1 : Int32), (pset Mb22 13 (fun _ => (0 : Int32))), rfl, ⟨Option.some.inj hR, rfl⟩, P_at ht hP⟩, hS.F ht⟩) hS.2.2 dX7_takes_115
  rw [if_neg c_21] at hR
  refine lv_tableOut (tgt := 116) hx hb dX7_takes_4 (sw_out [0, 1, 2, 3] (fun z h1 h2 => by simp; omega) (List.forall_mem_cons.mpr ⟨lv_neT (a := 0) c_1 rfl, List.forall_mem_cons.mpr ⟨lv_neT (a := 1) c_3 rfl, List.forall_mem_cons.mpr ⟨lv_neT (a := 2) c_16 rfl, List.forall_mem_cons.mpr ⟨lv_neT (a := 3) c_21 rfl, fun _ h => absurd h List.not_mem_nil⟩⟩⟩⟩)) (by decide) ?_
  refine lv_iload_n hx hb dX7_takes_116 rfl (lv_at hl 1 rfl) ?_
  refine lv_bipush (v := (61 : Int32)) hx hb dX7_takes_117 (by decide) ?_
  refine lv_icmp_ne (tgt := 152) hx hb dX7_takes_119 (by decide) (fun c_24 => ?_) (fun c_24 => ?_)
  · rw [if_neg c_24] at hR
    refine lv_aload_n hx hb dX7_takes_152 rfl (lv_at hl 0 rfl) ?_
    refine lv_iload_n hx hb dX7_takes_153 rfl (lv_at hl 1 rfl) ?_
    refine lv_bipush (v := (48 : Int32)) hx hb dX7_takes_154 (by decide) ?_
    refine lv_isub hx hb dX7_takes_156 ?_
    obtain ⟨r25, u26, hc27, hR⟩ := ob2_e hR
    have hF := va_free (wc := wMo cI aM M hs) hD hS hA [0, 1, 2, 3, 4, 5, 6, 7, 8] rfl
    refine va_calli (va_runV (As := [.int (p1 - (48 : Int32))]) (rest := []) ⟨hx, hb, hml, hown, hts⟩ (met_X7_takesDigit l dC dI cI cZ cS aM M hs s.heap.size (p1 - (48 : Int32)) (r25, u26) hc27) (cwV 1 hts gX7_takes_X7_takesDigit rfl rfl rfl (by decide +kernel) ⟨Nat.le_of_ble_eq_true rfl, Nat.le_of_ble_eq_true rfl⟩) (pV (wc := wMo cI aM M hs) (ci := 7) (q0 := 0) hK hP hD hN [0, 1, 2, 3, 4, 5, 6, 7, 8] rfl (by decide) rfl rfl) rfl rfl hl.1 rfl (lv_room (Nat.le_of_ble_eq_true rfl)) dX7_takes_157 ⟨Nat.zero_le _, Nat.zero_le _⟩) hS (fun q _ h => hF q h) hF (fun r25 u26 t H1 locs ht hvm hw hB hz1 hk1 hS => ?_)
    obtain ⟨hw, nb28⟩ := hw
    try dsimp only at hw hB
    rw [ht] at hB
    cases hw
    have hP := wrk (w2 := wMo cI aM u26 hs) hP hD [0, 1, 2, 3, 4, 5, 6, 7, 8] rfl (by decide) hk1 hB rfl rfl
    have hD := D_addr (w1 := wMo cI aM u26 hs) hD rfl
    exact W.zret (v := r25) (ty := .boolean) hx hb hr nb28 (fun t ht hW => ⟨⟨r25, u26, rfl, ⟨Option.some.inj hR, nb28⟩, P_at ht hP⟩, hS.F ht⟩) hS.2.2 dX7_takes_160
  · rw [if_pos c_24] at hR
    refine lv_aload_n hx hb dX7_takes_122 rfl (lv_at hl 0 rfl) ?_
    refine va_get (D := (dC, dI)) (ci := 7) (v := .int ((M 12) 0)) (C := RX7) (T := TX7) (N := 15) hx hb hts hin7 hown hK hP 0 rfl rfl 12 (by decide) (hw_ hts 2 rfl) (fun _ h9 => h9) rfl dX7_takes_123 ?_
    refine lv_iconst (v := (-1 : Int32)) hx hb dX7_takes_126 (by decide) ?_
    refine lv_icmp_eq (tgt := 152) hx hb dX7_takes_127 (by decide) (fun c_29 => ?_) (fun c_29 => ?_)
    · rw [if_pos c_29] at hR
      refine lv_aload_n hx hb dX7_takes_152 rfl (lv_at hl 0 rfl) ?_
      refine lv_iload_n hx hb dX7_takes_153 rfl (lv_at hl 1 rfl) ?_
      refine lv_bipush (v := (48 : Int32)) hx hb dX7_takes_154 (by decide) ?_
      refine lv_isub hx hb dX7_takes_156 ?_
      obtain ⟨r30, u31, hc32, hR⟩ := ob2_e hR
      have hF := va_free (wc := wMo cI aM M hs) hD hS hA [0, 1, 2, 3, 4, 5, 6, 7, 8] rfl
      refine va_calli (va_runV (As := [.int (p1 - (48 : Int32))]) (rest := []) ⟨hx, hb, hml, hown, hts⟩ (met_X7_takesDigit l dC dI cI cZ cS aM M hs s.heap.size (p1 - (48 : Int32)) (r30, u31) hc32) (cwV 1 hts gX7_takes_X7_takesDigit rfl rfl rfl (by decide +kernel) ⟨Nat.le_of_ble_eq_true rfl, Nat.le_of_ble_eq_true rfl⟩) (pV (wc := wMo cI aM M hs) (ci := 7) (q0 := 0) hK hP hD hN [0, 1, 2, 3, 4, 5, 6, 7, 8] rfl (by decide) rfl rfl) rfl rfl hl.1 rfl (lv_room (Nat.le_of_ble_eq_true rfl)) dX7_takes_157 ⟨Nat.zero_le _, Nat.zero_le _⟩) hS (fun q _ h => hF q h) hF (fun r30 u31 t H1 locs ht hvm hw hB hz1 hk1 hS => ?_)
      obtain ⟨hw, nb33⟩ := hw
      try dsimp only at hw hB
      rw [ht] at hB
      cases hw
      have hP := wrk (w2 := wMo cI aM u31 hs) hP hD [0, 1, 2, 3, 4, 5, 6, 7, 8] rfl (by decide) hk1 hB rfl rfl
      have hD := D_addr (w1 := wMo cI aM u31 hs) hD rfl
      exact W.zret (v := r30) (ty := .boolean) hx hb hr nb33 (fun t ht hW => ⟨⟨r30, u31, rfl, ⟨Option.some.inj hR, nb33⟩, P_at ht hP⟩, hS.F ht⟩) hS.2.2 dX7_takes_160
    · rw [if_neg c_29] at hR
      refine lv_aload_n hx hb dX7_takes_130 rfl (lv_at hl 0 rfl) ?_
      refine va_get (D := (dC, dI)) (ci := 7) (v := .ref (aM 8)) (C := RX7) (T := TX7) (N := 15) hx hb hts hin7 hown hK hP 0 rfl rfl 10 (by decide) (hw_ hts 3 rfl) (fun _ h9 => h9) rfl dX7_takes_131 ?_
      refine lv_iconst (v := (2 : Int32)) hx hb dX7_takes_134 (by decide) ?_
      refine lv_aload_n hx hb dX7_takes_135 rfl (lv_at hl 0 rfl) ?_
      refine va_get (D := (dC, dI)) (ci := 7) (v := .int ((M 11) 0)) (C := RX7) (T := TX7) (N := 15) hx hb hts hin7 hown hK hP 0 rfl rfl 11 (by decide) (hw_ hts 4 rfl) (fun _ h9 => h9) rfl dX7_takes_136 ?_
      refine lv_imul hx hb dX7_takes_139 ?_
      refine lv_aload_n hx hb dX7_takes_140 rfl (lv_at hl 0 rfl) ?_
      refine va_get (D := (dC, dI)) (ci := 7) (v := .int ((M 12) 0)) (C := RX7) (T := TX7) (N := 15) hx hb hts hin7 hown hK hP 0 rfl rfl 12 (by decide) (hw_ hts 2 rfl) (fun _ h9 => h9) rfl dX7_takes_141 ?_
      obtain ⟨hix34, hR⟩ := ck_some hR
      refine va_iast (f := (M 10)) hx hb hK hP hD hS 8 0 rfl rfl hix34 dX7_takes_144 (fun H1 locs hP hD hS => ?_)
      have hP : va_P (dC, dI) vwCl (wMo cI aM (pset M 10 (upd (M 10) (ix ((2 : Int32) * ((M 11) 0))) ((M 12) 0))) hs) H1 := hP
      have hD : va_D A (wMo cI aM (pset M 10 (upd (M 10) (ix ((2 : Int32) * ((M 11) 0))) ((M 12) 0))) hs) := hD
      obtain ⟨Mb35, hMb35⟩ : ∃ z : Pic, z = (pset M 10 (upd (M 10) (ix ((2 : Int32) * ((M 11) 0))) ((M 12) 0))) := ⟨_, rfl⟩
      rw [← hMb35] at hP hD
      have hR := bd_n hMb35 hR
      refine lv_aload_n hx hb dX7_takes_145 rfl (lv_at hl 0 rfl) ?_
      refine lv_iconst (v := (2 : Int32)) hx hb dX7_takes_146 (by decide) ?_
      refine va_put (D := (dC, dI)) (ci := 7) (v := .int (2 : Int32)) (ty := .int) (C := RX7) (T := TX7) (N := 15) hx hb hts hin7 tyX7 tyX7_ok nmX7 hown hK hP hD hS 0 rfl rfl 13 (by decide) (hw_ hts 1 rfl) (fun _ h9 => h9) rfl (by decide +kernel) rfl rfl (Nat.le_of_ble_eq_true rfl) dX7_takes_147 (fun H2 locs hP hD hS => ?_)
      have hP : va_P (dC, dI) vwCl (wMo cI aM (pset Mb35 13 (fun _ => (2 : Int32))) hs) H2 := hP
      have hD : va_D A (wMo cI aM (pset Mb35 13 (fun _ => (2 : Int32))) hs) := hD
      refine lv_iconst (v := (1 : Int32)) hx hb dX7_takes_150 (by decide) ?_
      exact W.zret (v := (1 : Int32)) (ty := .boolean) hx hb hr rfl (fun t ht hW => ⟨⟨(1 : Int32), (pset Mb35 13 (fun _ => (2 : Int32))), rfl, ⟨Option.some.inj hR, rfl⟩, P_at ht hP⟩, hS.F ht⟩) hS.2.2 dX7_takes_151
abbrev rm_X7_rightUpTo : Room := { frames := 4, cells := 0, slots := 0, locals := 86 }
abbrev q_X7_rightUpTo (dC : Nat → ClassId) (dI : Nat → Nat → Nat) (cI cZ cS : ClassId) (aM : Nat → Nat) (hs : Int64) (res : Int32 × Pic) (A : Nat → Prop) : Array Value → State → Outcome → State → Prop := va_Qi (fun (r : Int32) (u : Pic) => (r, u) = res) (fun u t => va_P (dC, dI) vwCl (wMo cI aM u hs) t.heap) A
set_option maxHeartbeats 4000000 in
set_option maxRecDepth 100000 in
theorem met_X7_rightUpTo (l : Launch) (dC : Nat → ClassId) (dI : Nat → Nat → Nat) (cI cZ cS : ClassId) (aM : Nat → Nat) (M : Pic) (hs : Int64) (sz : Nat)  (res : Int32 × Pic) (hR : f7_rightUpTo M = some res) : Met l yX7_rightUpTo wsX7_rightUpTo rm_X7_rightUpTo (va_Pc [.ref (aM 0)] (pW (dC, dI) (tyS cI cZ cS) (wMo cI aM M hs) sz)) (q_X7_rightUpTo dC dI cI cZ cS aM hs res (va_A (wMo cI aM M hs) sz)) 0 0 (va_A (wMo cI aM M hs) sz) := by
  refine Met.ofW (cc := cX7_rightUpTo) (maxL := 2) (ret := (some .int)) (by decide) rfl ?_
  intro p e s m args below meth c s₁ B hml hv
  obtain ⟨rfl, hsz, hP, hK, hD0, hN⟩ := hv
  have hx := B.exec
  have hb := B.bytes
  have hr := B.returns
  have hts := atoms_spec (ws := wsX7_rightUpTo) B.pre
  have hown : s.vm.findClass RX7 = some m.cls := findClass_of_methodNamed B.named
  have hlocks := B.notSynchronized
  subst hsz
  have hD := hD0.self (sz := s.heap.size)
  generalize hAe : va_A (wMo cI aM M hs) s.heap.size = A at hD ⊢
  have hA : ∀ q : Nat, s.heap.size ≤ q → A q := fun q h => by rw [← hAe]; exact Or.inr h
  have hS : va_S A s.heap s.heap [] := va_S.rf
  have hP : va_P (dC, dI) vwCl (wMo cI aM M hs) s.heap := hP
  rw [f7_rightUpTo] at hR
  have hin7 : ∀ w ∈ wsX70, w ∈ wsX7_rightUpTo := by decide +kernel
  have hl := lv_entry ([.ref (aM 0)]) (n := 2) (Nat.le_of_ble_eq_true rfl)
  rw [lg_entry_eq]
  generalize (lg_sl ([.ref (aM 0)]) ++ List.replicate (2 - (lg_sl ([.ref (aM 0)])).length) Slot.unset).toArray = ls at hl ⊢
  have hl : lv_has ls 2 [(0, .ref (aM 0))] := hl
  refine lv_aload_n hx hb dX7_rightUpTo_0 rfl (lv_at hl 0 rfl) ?_
  refine lv_iconst (v := (0 : Int32)) hx hb dX7_rightUpTo_1 (by decide) ?_
  refine va_put (D := (dC, dI)) (ci := 7) (v := .int (0 : Int32)) (ty := .int) (C := RX7) (T := TX7) (N := 15) hx hb hts hin7 tyX7 tyX7_ok nmX7 hown hK hP hD hS 0 rfl rfl 11 (by decide) (hw_ hts 1 rfl) (fun _ h9 => h9) rfl (by decide +kernel) rfl rfl (Nat.le_of_ble_eq_true rfl) dX7_rightUpTo_2 (fun H1 locs hP hD hS => ?_)
  have hP : va_P (dC, dI) vwCl (wMo cI aM (pset M 11 (fun _ => (0 : Int32))) hs) H1 := hP
  have hD : va_D A (wMo cI aM (pset M 11 (fun _ => (0 : Int32))) hs) := hD
  refine lv_aload_n hx hb dX7_rightUpTo_5 rfl (lv_at hl 0 rfl) ?_
  refine lv_iconst (v := (0 : Int32)) hx hb dX7_rightUpTo_6 (by decide) ?_
  refine va_put (D := (dC, dI)) (ci := 7) (v := .int (0 : Int32)) (ty := .int) (C := RX7) (T := TX7) (N := 15) hx hb hts hin7 tyX7 tyX7_ok nmX7 hown hK hP hD hS 0 rfl rfl 13 (by decide) (hw_ hts 2 rfl) (fun _ h9 => h9) rfl (by decide +kernel) rfl rfl (Nat.le_of_ble_eq_true rfl) dX7_rightUpTo_7 (fun H2 locs hP hD hS => ?_)
  have hP : va_P (dC, dI) vwCl (wMo cI aM (pset (pset M 11 (fun _ => (0 : Int32))) 13 (fun _ => (0 : Int32))) hs) H2 := hP
  have hD : va_D A (wMo cI aM (pset (pset M 11 (fun _ => (0 : Int32))) 13 (fun _ => (0 : Int32))) hs) := hD
  refine lv_iconst (v := (0 : Int32)) hx hb dX7_rightUpTo_10 (by decide) ?_
  refine lv_istore_n (lv' := [(1, .int (0 : Int32)), (0, .ref (aM 0))]) hx hb dX7_rightUpTo_11 rfl hl (by decide) rfl (fun ls hl => ?_)
  have LOOP12 : ∀ (k : Int32 → Pic → (Option (Int32 × Pic))), (∀ (x1_12 : Int32) (M_12 : Pic) (H3 : Heap) (locs : List Loc), k x1_12 M_12 = some res → va_P (dC, dI) vwCl (wMo cI aM M_12 hs) H3 → va_D A (wMo cI aM M_12 hs) → va_S A s.heap H3 locs → ∀ (ls : Array Slot), lv_has ls 2 [(1, .int x1_12)] → W p l e (headSpec wsX7_rightUpTo rm_X7_rightUpTo).room s m ([.ref (aM 0)] : List Value).toArray below meth c H3 locs 0 0 (MQ below (q_X7_rightUpTo dC dI cI cZ cS aM hs res A) ([.ref (aM 0)] : List Value).toArray s 0 0 A) (F0 m 39 ls [])) → ∀ (nf : Nat) (x1_12 : Int32) (M_12 : Pic) (H3 : Heap) (locs : List Loc), f7_rightUpTo_L12  nf x1_12 M_12 k = some res → va_P (dC, dI) vwCl (wMo cI aM M_12 hs) H3 → va_D A (wMo cI aM M_12 hs) → va_S A s.heap H3 locs → ∀ (ls : Array Slot), lv_has ls 2 [(1, .int x1_12), (0, .ref (aM 0))] → W p l e (headSpec wsX7_rightUpTo rm_X7_rightUpTo).room s m ([.ref (aM 0)] : List Value).toArray below meth c H3 locs 0 0 (MQ below (q_X7_rightUpTo dC dI cI cZ cS aM hs res A) ([.ref (aM 0)] : List Value).toArray s 0 0 A) (F0 m 12 ls []) := by
    intro k hk nf
    induction nf with
    | zero =>
      intro x1_12 M_12 H3 locs hR hP hD hS ls hl
      rw [f7_rightUpTo_L12] at hR
      cases hR
    | succ nf ih =>
      intro x1_12 M_12 H3 locs hR hP hD hS ls hl
      rw [f7_rightUpTo_L12] at hR
      refine lv_iload_n hx hb dX7_rightUpTo_12 rfl (lv_at hl 0 rfl) ?_
      refine lv_aload_n hx hb dX7_rightUpTo_13 rfl (lv_at hl 1 rfl) ?_
      refine va_get (D := (dC, dI)) (ci := 7) (v := .int ((M_12 5) 0)) (C := RX7) (T := TX7) (N := 15) hx hb hts hin7 hown hK hP 0 rfl rfl 5 (by decide) (hw_ hts 3 rfl) (fun _ h9 => h9) rfl dX7_rightUpTo_14 ?_
      refine lv_icmp_ge (tgt := 39) hx hb dX7_rightUpTo_17 (by decide) (fun c_1 => ?_) (fun c_1 => ?_)
      · rw [if_pos c_1] at hR
        exact hk x1_12 M_12 _ _  hR hP hD hS ls (lv_sub hl [0] rfl)
      · rw [if_neg c_1] at hR
        refine lv_aload_n hx hb dX7_rightUpTo_20 rfl (lv_at hl 1 rfl) ?_
        refine lv_aload_n hx hb dX7_rightUpTo_21 rfl (lv_at hl 1 rfl) ?_
        refine va_get (D := (dC, dI)) (ci := 7) (v := .ref (aM 5)) (C := RX7) (T := TX7) (N := 15) hx hb hts hin7 hown hK hP 0 rfl rfl 6 (by decide) (hw_ hts 4 rfl) (fun _ h9 => h9) rfl dX7_rightUpTo_22 ?_
        refine lv_iload_n hx hb dX7_rightUpTo_25 rfl (lv_at hl 0 rfl) ?_
        obtain ⟨hix2, hR⟩ := ck_some hR
        refine va_iald (f := (M_12 6)) hx hb hK hP 5 0 rfl rfl hix2 dX7_rightUpTo_26 ?_
        obtain ⟨r3, u4, hc5, hR⟩ := ob2_e hR
        have hF := va_free (wc := wMo cI aM M_12 hs) hD hS hA [0, 1, 2, 3, 4, 5, 6, 7, 8] rfl
        refine va_calli (va_runV (As := [.int ((M_12 6) (ix x1_12))]) (rest := []) ⟨hx, hb, hml, hown, hts⟩ (met_X7_takes l dC dI cI cZ cS aM M_12 hs H3.size ((M_12 6) (ix x1_12)) (r3, u4) hc5) (cwV 1 hts gX7_rightUpTo_X7_takes rfl rfl rfl (by decide +kernel) ⟨Nat.le_of_ble_eq_true rfl, Nat.le_of_ble_eq_true rfl⟩) (pV (wc := wMo cI aM M_12 hs) (ci := 7) (q0 := 0) hK hP hD hN [0, 1, 2, 3, 4, 5, 6, 7, 8] rfl (by decide) rfl rfl) rfl rfl hl.1 rfl (lv_room (Nat.le_of_ble_eq_true rfl)) dX7_rightUpTo_27 ⟨Nat.zero_le _, Nat.zero_le _⟩) hS (fun q _ h => hF q h) hF (fun r3 u4 t H4 locs ht hvm hw hB hz1 hk1 hS => ?_)
        obtain ⟨hw, nb6⟩ := hw
        try dsimp only at hw hB
        rw [ht] at hB
        cases hw
        have hP := wrk (w2 := wMo cI aM u4 hs) hP hD [0, 1, 2, 3, 4, 5, 6, 7, 8] rfl (by decide) hk1 hB rfl rfl
        have hD := D_addr (w1 := wMo cI aM u4 hs) hD rfl
        refine lv_if_eq (tgt := 39) hx hb dX7_rightUpTo_30 (by decide) (fun c_7 => ?_) (fun c_7 => ?_)
        · rw [if_pos c_7] at hR
          exact hk x1_12 u4 _ _  hR hP hD hS ls (lv_sub hl [0] rfl)
        · rw [if_neg c_7] at hR
          refine lv_iinc (v := (x1_12 + 1)) (lv' := [(1, .int (x1_12 + 1)), (0, .ref (aM 0))]) hx hb dX7_rightUpTo_33 hl (k := 0) rfl rfl (by decide) rfl (fun ls hl => ?_)
          refine lv_goto (tgt := 12) hx hb dX7_rightUpTo_36 (by decide) ?_
          exact ih (x1_12 + 1) u4 _ _  hR hP hD hS ls (lv_sub hl [0, 1] rfl)
  refine LOOP12 (fun x1_12 M_12 => (some (x1_12, M_12))) (fun x1_12 M_12 H3 locs hR hP hD hS ls hl => ?_) 61 (0 : Int32) (pset (pset M 11 (fun _ => (0 : Int32))) 13 (fun _ => (0 : Int32))) _ _  hR hP hD hS ls (lv_sub hl [0, 1] rfl)
  try dsimp only at hR
  refine lv_iload_n hx hb dX7_rightUpTo_39 rfl (lv_at hl 0 rfl) ?_
  exact W.iret (v := x1_12) hx hb hr (fun t ht hW => ⟨⟨x1_12, M_12, rfl, Option.some.inj hR, P_at ht hP⟩, hS.F ht⟩) hS.2.2 dX7_rightUpTo_40
abbrev rm_X7_firstError : Room := { frames := 5, cells := 0, slots := 0, locals := 107 }
abbrev q_X7_firstError (dC : Nat → ClassId) (dI : Nat → Nat → Nat) (cI cZ cS : ClassId) (aM : Nat → Nat) (hs : Int64) (res : Int32 × Pic) (A : Nat → Prop) : Array Value → State → Outcome → State → Prop := va_Qi (fun (r : Int32) (u : Pic) => (r, u) = res) (fun u t => va_P (dC, dI) vwCl (wMo cI aM u hs) t.heap) A
set_option maxHeartbeats 4000000 in
set_option maxRecDepth 100000 in
theorem met_X7_firstError (l : Launch) (dC : Nat → ClassId) (dI : Nat → Nat → Nat) (cI cZ cS : ClassId) (aM : Nat → Nat) (M : Pic) (hs : Int64) (sz : Nat)  (res : Int32 × Pic) (hR : f7_firstError M = some res) : Met l yX7_firstError wsX7_firstError rm_X7_firstError (va_Pc [.ref (aM 0)] (pW (dC, dI) (tyS cI cZ cS) (wMo cI aM M hs) sz)) (q_X7_firstError dC dI cI cZ cS aM hs res (va_A (wMo cI aM M hs) sz)) 0 0 (va_A (wMo cI aM M hs) sz) := by
  refine Met.ofW (cc := cX7_firstError) (maxL := 1) (ret := (some .int)) (by decide) rfl ?_
  intro p e s m args below meth c s₁ B hml hv
  obtain ⟨rfl, hsz, hP, hK, hD0, hN⟩ := hv
  have hx := B.exec
  have hb := B.bytes
  have hr := B.returns
  have hts := atoms_spec (ws := wsX7_firstError) B.pre
  have hown : s.vm.findClass RX7 = some m.cls := findClass_of_methodNamed B.named
  have hlocks := B.notSynchronized
  subst hsz
  have hD := hD0.self (sz := s.heap.size)
  generalize hAe : va_A (wMo cI aM M hs) s.heap.size = A at hD ⊢
  have hA : ∀ q : Nat, s.heap.size ≤ q → A q := fun q h => by rw [← hAe]; exact Or.inr h
  have hS : va_S A s.heap s.heap [] := va_S.rf
  have hP : va_P (dC, dI) vwCl (wMo cI aM M hs) s.heap := hP
  rw [f7_firstError] at hR
  have hin7 : ∀ w ∈ wsX70, w ∈ wsX7_firstError := by decide +kernel
  have hl := lv_entry ([.ref (aM 0)]) (n := 1) (Nat.le_of_ble_eq_true rfl)
  rw [lg_entry_eq]
  generalize (lg_sl ([.ref (aM 0)]) ++ List.replicate (1 - (lg_sl ([.ref (aM 0)])).length) Slot.unset).toArray = ls at hl ⊢
  have hl : lv_has ls 1 [(0, .ref (aM 0))] := hl
  refine lv_aload_n hx hb dX7_firstError_0 rfl (lv_at hl 0 rfl) ?_
  refine lv_iconst (v := (0 : Int32)) hx hb dX7_firstError_1 (by decide) ?_
  refine va_put (D := (dC, dI)) (ci := 7) (v := .int (0 : Int32)) (ty := .int) (C := RX7) (T := TX7) (N := 15) hx hb hts hin7 tyX7 tyX7_ok nmX7 hown hK hP hD hS 0 rfl rfl 7 (by decide) (hw_ hts 1 rfl) (fun _ h9 => h9) rfl (by decide +kernel) rfl rfl (Nat.le_of_ble_eq_true rfl) dX7_firstError_2 (fun H1 locs hP hD hS => ?_)
  have hP : va_P (dC, dI) vwCl (wMo cI aM (pset M 7 (fun _ => (0 : Int32))) hs) H1 := hP
  have hD : va_D A (wMo cI aM (pset M 7 (fun _ => (0 : Int32))) hs) := hD
  refine lv_aload_n hx hb dX7_firstError_5 rfl (lv_at hl 0 rfl) ?_
  obtain ⟨r1, u2, hc3, hR⟩ := ob2_e hR
  have hF := va_free (wc := wMo cI aM (pset M 7 (fun _ => (0 : Int32))) hs) hD hS hA [0, 1, 2, 3, 4, 5, 6, 7, 8] rfl
  refine va_calli (va_runV (As := []) (rest := []) ⟨hx, hb, hml, hown, hts⟩ (met_X7_rightUpTo l dC dI cI cZ cS aM (pset M 7 (fun _ => (0 : Int32))) hs H1.size (r1, u2) hc3) (cwV 0 hts gX7_firstError_X7_rightUpTo rfl rfl rfl (by decide +kernel) ⟨Nat.le_of_ble_eq_true rfl, Nat.le_of_ble_eq_true rfl⟩) (pV (wc := wMo cI aM (pset M 7 (fun _ => (0 : Int32))) hs) (ci := 7) (q0 := 0) hK hP hD hN [0, 1, 2, 3, 4, 5, 6, 7, 8] rfl (by decide) rfl rfl) rfl rfl hl.1 rfl (lv_room (Nat.le_of_ble_eq_true rfl)) dX7_firstError_6 ⟨Nat.zero_le _, Nat.zero_le _⟩) hS (fun q _ h => hF q h) hF (fun r1 u2 t H2 locs ht hvm hw hB hz1 hk1 hS => ?_)
  try dsimp only at hw hB
  rw [ht] at hB
  cases hw
  have hP := wrk (w2 := wMo cI aM u2 hs) hP hD [0, 1, 2, 3, 4, 5, 6, 7, 8] rfl (by decide) hk1 hB rfl rfl
  have hD := D_addr (w1 := wMo cI aM u2 hs) hD rfl
  exact W.iret (v := r1) hx hb hr (fun t ht hW => ⟨⟨r1, u2, rfl, Option.some.inj hR, P_at ht hP⟩, hS.F ht⟩) hS.2.2 dX7_firstError_9
abbrev rm_X7_puts : Room := { frames := 8, cells := 0, slots := 0, locals := 184 }
abbrev q_X7_puts (dC : Nat → ClassId) (dI : Nat → Nat → Nat) (cI cZ cS : ClassId) (aM : Nat → Nat) (hs : Int64) (res : Int32 × Pic) (A : Nat → Prop) : Array Value → State → Outcome → State → Prop := va_Qi (fun (r : Int32) (u : Pic) => (r, u) = res ∧ narrow .boolean (.int r) = .int r) (fun u t => va_P (dC, dI) vwCl (wMo cI aM u hs) t.heap) A
set_option maxHeartbeats 4000000 in
set_option maxRecDepth 100000 in
theorem met_X7_puts (l : Launch) (dC : Nat → ClassId) (dI : Nat → Nat → Nat) (cI cZ cS : ClassId) (aM : Nat → Nat) (M : Pic) (hs : Int64) (sz : Nat) (p1 : Int32) (res : Int32 × Pic) (hR : f7_puts M p1 = some res) : Met l yX7_puts wsX7_puts rm_X7_puts (va_Pc [.ref (aM 0), .int p1] (pW (dC, dI) (tyS cI cZ cS) (wMo cI aM M hs) sz)) (q_X7_puts dC dI cI cZ cS aM hs res (va_A (wMo cI aM M hs) sz)) 0 0 (va_A (wMo cI aM M hs) sz) := by
  refine Met.ofW (cc := cX7_puts) (maxL := 5) (ret := (some .boolean)) (by decide) rfl ?_
  intro p e s m args below meth c s₁ B hml hv
  obtain ⟨rfl, hsz, hP, hK, hD0, hN⟩ := hv
  have hx := B.exec
  have hb := B.bytes
  have hr := B.returns
  have hts := atoms_spec (ws := wsX7_puts) B.pre
  have hown : s.vm.findClass RX7 = some m.cls := findClass_of_methodNamed B.named
  have hlocks := B.notSynchronized
  subst hsz
  have hD := hD0.self (sz := s.heap.size)
  generalize hAe : va_A (wMo cI aM M hs) s.heap.size = A at hD ⊢
  have hA : ∀ q : Nat, s.heap.size ≤ q → A q := fun q h => by rw [← hAe]; exact Or.inr h
  have hS : va_S A s.heap s.heap [] := va_S.rf
  have hP : va_P (dC, dI) vwCl (wMo cI aM M hs) s.heap := hP
  rw [f7_puts] at hR
  have hin7 : ∀ w ∈ wsX70, w ∈ wsX7_puts := by decide +kernel
  have hl := lv_entry ([.ref (aM 0), .int p1]) (n := 5) (Nat.le_of_ble_eq_true rfl)
  rw [lg_entry_eq]
  generalize (lg_sl ([.ref (aM 0), .int p1]) ++ List.replicate (5 - (lg_sl ([.ref (aM 0), .int p1])).length) Slot.unset).toArray = ls at hl ⊢
  have hl : lv_has ls 5 [(0, .ref (aM 0)), (1, .int p1)] := hl
  refine lv_aload_n hx hb dX7_puts_0 rfl (lv_at hl 0 rfl) ?_
  refine va_get (D := (dC, dI)) (ci := 7) (v := .ref (aM 8)) (C := RX7) (T := TX7) (N := 15) hx hb hts hin7 hown hK hP 0 rfl rfl 10 (by decide) (hw_ hts 1 rfl) (fun _ h9 => h9) rfl dX7_puts_1 ?_
  refine lv_iconst (v := (2 : Int32)) hx hb dX7_puts_4 (by decide) ?_
  refine lv_iload_n hx hb dX7_puts_5 rfl (lv_at hl 1 rfl) ?_
  refine lv_imul hx hb dX7_puts_6 ?_
  obtain ⟨hix1, hR⟩ := ck_some hR
  refine va_iald (f := (M 10)) hx hb hK hP 8 0 rfl rfl hix1 dX7_puts_7 ?_
  refine lv_topi (fun v2 hv2 => ?_)
  have hR := bd_n hv2 hR
  refine lv_istore_n (lv' := [(2, .int v2), (0, .ref (aM 0)), (1, .int p1)]) hx hb dX7_puts_8 rfl hl (by decide) rfl (fun ls hl => ?_)
  refine lv_aload_n hx hb dX7_puts_9 rfl (lv_at hl 1 rfl) ?_
  refine va_get (D := (dC, dI)) (ci := 7) (v := .ref (aM 8)) (C := RX7) (T := TX7) (N := 15) hx hb hts hin7 hown hK hP 0 rfl rfl 10 (by decide) (hw_ hts 1 rfl) (fun _ h9 => h9) rfl dX7_puts_10 ?_
  refine lv_iconst (v := (2 : Int32)) hx hb dX7_puts_13 (by decide) ?_
  refine lv_iload_n hx hb dX7_puts_14 rfl (lv_at hl 2 rfl) ?_
  refine lv_imul hx hb dX7_puts_15 ?_
  refine lv_iconst (v := (1 : Int32)) hx hb dX7_puts_16 (by decide) ?_
  refine lv_iadd hx hb dX7_puts_17 ?_
  obtain ⟨hix3, hR⟩ := ck_some hR
  refine va_iald (f := (M 10)) hx hb hK hP 8 0 rfl rfl hix3 dX7_puts_18 ?_
  refine lv_topi (fun v4 hv4 => ?_)
  have hR := bd_n hv4 hR
  refine lv_istore_n (lv' := [(3, .int v4), (2, .int v2), (0, .ref (aM 0)), (1, .int p1)]) hx hb dX7_puts_19 rfl hl (by decide) rfl (fun ls hl => ?_)
  refine lv_aload_n hx hb dX7_puts_20 rfl (lv_at hl 2 rfl) ?_
  refine lv_iload_n hx hb dX7_puts_21 rfl (lv_at hl 0 rfl) ?_
  refine va_calli (va_runV (As := [.int v4]) (rest := []) ⟨hx, hb, hml, hown, hts⟩ (met_X7_isDish l dC dI cI cZ cS aM M hs s.heap.size v4) (cwV 1 hts gX7_puts_X7_isDish rfl rfl rfl (by decide +kernel) ⟨Nat.le_of_ble_eq_true rfl, Nat.le_of_ble_eq_true rfl⟩) (pV (wc := wMo cI aM M hs) (ci := 7) (q0 := 0) hK hP hD hN [0, 1, 2, 3, 4, 5, 6, 7, 8] rfl (by decide) rfl rfl) rfl rfl hl.1 rfl (lv_room (Nat.le_of_ble_eq_true rfl)) dX7_puts_22 ⟨Nat.zero_le _, Nat.zero_le _⟩) hS (fun q _ h => a0_in hS hA q h) (a0_in hS hA) (fun r5 u t H1 locs ht hvm hw hB hz1 hk1 hS => ?_)
  obtain ⟨hw, nb6⟩ := hw
  subst hw
  have hP := rdk hP hk1
  refine lv_if_eq (tgt := 41) hx hb dX7_puts_25 (by decide) (fun c_7 => ?_) (fun c_7 => ?_)
  · rw [if_pos c_7] at hR
    refine lv_iconst (v := (0 : Int32)) hx hb dX7_puts_41 (by decide) ?_
    refine lv_istore (lv' := [(4, .int (0 : Int32)), (3, .int v4), (2, .int v2), (0, .ref (aM 0)), (1, .int p1)]) hx hb dX7_puts_42 hl (by decide) rfl (fun ls hl => ?_)
    refine lv_iload hx hb dX7_puts_44 (lv_at hl 0 rfl) ?_
    refine lv_if_eq (tgt := 61) hx hb dX7_puts_46 (by decide) (fun _ => ?_) (fun q => absurd (by decide) q)
    refine lv_iload hx hb dX7_puts_61 (lv_at hl 0 rfl) ?_
    exact W.zret (v := (0 : Int32)) (ty := .boolean) hx hb hr rfl (fun t ht hW => ⟨⟨(0 : Int32), M, rfl, ⟨Option.some.inj hR, rfl⟩, P_at ht hP⟩, hS.F ht⟩) hS.2.2 dX7_puts_63
  · rw [if_neg c_7] at hR
    refine lv_aload_n hx hb dX7_puts_28 rfl (lv_at hl 2 rfl) ?_
    refine lv_iload_n hx hb dX7_puts_29 rfl (lv_at hl 1 rfl) ?_
    refine lv_iload_n hx hb dX7_puts_30 rfl (lv_at hl 0 rfl) ?_
    obtain ⟨r8, u9, hc10, hR⟩ := ob2_e hR
    have hF := va_free (wc := wMo cI aM M hs) hD hS hA [0, 1, 2, 3, 4, 5, 6, 7, 8] rfl
    refine va_calli (va_runV (As := [.int v2, .int v4]) (rest := []) ⟨hx, hb, hml, hown, hts⟩ (met_X7_canServe l dC dI cI cZ cS aM M hs H1.size v2 v4 (r8, u9) hc10) (cwV 2 hts gX7_puts_X7_canServe rfl rfl rfl (by decide +kernel) ⟨Nat.le_of_ble_eq_true rfl, Nat.le_of_ble_eq_true rfl⟩) (pV (wc := wMo cI aM M hs) (ci := 7) (q0 := 0) hK hP hD hN [0, 1, 2, 3, 4, 5, 6, 7, 8] rfl (by decide) rfl rfl) rfl rfl hl.1 rfl (lv_room (Nat.le_of_ble_eq_true rfl)) dX7_puts_31 ⟨Nat.zero_le _, Nat.zero_le _⟩) hS (fun q _ h => hF q h) hF (fun r8 u9 t H2 locs ht hvm hw hB hz1 hk1 hS => ?_)
    obtain ⟨hw, nb11⟩ := hw
    try dsimp only at hw hB
    rw [ht] at hB
    cases hw
    have hP := wrk (w2 := wMo cI aM u9 hs) hP hD [0, 1, 2, 3, 4, 5, 6, 7, 8] rfl (by decide) hk1 hB rfl rfl
    have hD := D_addr (w1 := wMo cI aM u9 hs) hD rfl
    refine lv_if_eq (tgt := 41) hx hb dX7_puts_34 (by decide) (fun c_12 => ?_) (fun c_12 => ?_)
    · rw [if_pos c_12] at hR
      refine lv_iconst (v := (0 : Int32)) hx hb dX7_puts_41 (by decide) ?_
      refine lv_istore (lv' := [(4, .int (0 : Int32)), (3, .int v4), (2, .int v2), (0, .ref (aM 0)), (1, .int p1)]) hx hb dX7_puts_42 hl (by decide) rfl (fun ls hl => ?_)
      refine lv_iload hx hb dX7_puts_44 (lv_at hl 0 rfl) ?_
      refine lv_if_eq (tgt := 61) hx hb dX7_puts_46 (by decide) (fun _ => ?_) (fun q => absurd (by decide) q)
      refine lv_iload hx hb dX7_puts_61 (lv_at hl 0 rfl) ?_
      exact W.zret (v := (0 : Int32)) (ty := .boolean) hx hb hr rfl (fun t ht hW => ⟨⟨(0 : Int32), u9, rfl, ⟨Option.some.inj hR, rfl⟩, P_at ht hP⟩, hS.F ht⟩) hS.2.2 dX7_puts_63
    · rw [if_neg c_12] at hR
      refine lv_iconst (v := (1 : Int32)) hx hb dX7_puts_37 (by decide) ?_
      refine lv_goto (tgt := 42) hx hb dX7_puts_38 (by decide) ?_
      refine lv_istore (lv' := [(4, .int (1 : Int32)), (3, .int v4), (2, .int v2), (0, .ref (aM 0)), (1, .int p1)]) hx hb dX7_puts_42 hl (by decide) rfl (fun ls hl => ?_)
      refine lv_iload hx hb dX7_puts_44 (lv_at hl 0 rfl) ?_
      refine lv_if_eq (tgt := 61) hx hb dX7_puts_46 (by decide) (fun q => absurd q (by decide)) (fun _ => ?_)
      refine lv_aload_n hx hb dX7_puts_49 rfl (lv_at hl 3 rfl) ?_
      refine lv_iload_n hx hb dX7_puts_50 rfl (lv_at hl 2 rfl) ?_
      refine lv_aload_n hx hb dX7_puts_51 rfl (lv_at hl 3 rfl) ?_
      refine lv_iload_n hx hb dX7_puts_52 rfl (lv_at hl 1 rfl) ?_
      refine lv_iconst (v := (0 : Int32)) hx hb dX7_puts_53 (by decide) ?_
      obtain ⟨r13, hc14, hR⟩ := ob1_e hR
      refine va_calli (va_runV (As := [.int v4, .int (0 : Int32)]) (rest := [.int v2, .ref (aM 0)]) ⟨hx, hb, hml, hown, hts⟩ (met_X7_of l dC dI cI cZ cS aM u9 hs H2.size v4 (0 : Int32) r13 hc14) (cwV 2 hts gX7_puts_X7_of rfl rfl rfl (by decide +kernel) ⟨Nat.le_of_ble_eq_true rfl, Nat.le_of_ble_eq_true rfl⟩) (pV (wc := wMo cI aM u9 hs) (ci := 7) (q0 := 0) hK hP hD hN [0, 1, 2, 3, 4, 5, 6, 7, 8] rfl (by decide) rfl rfl) rfl rfl hl.1 rfl (lv_room (Nat.le_of_ble_eq_true rfl)) dX7_puts_54 ⟨Nat.zero_le _, Nat.zero_le _⟩) hS (fun q _ h => a0_in hS hA q h) (a0_in hS hA) (fun r13 u t H3 locs ht hvm hw hB hz1 hk1 hS => ?_)
      cases hw
      have hP := rdk hP hk1
      refine lv_iload_n hx hb dX7_puts_57 rfl (lv_at hl 1 rfl) ?_
      obtain ⟨u15, hc16, hR⟩ := ob1_e hR
      have hF := va_free (wc := wMo cI aM u9 hs) hD hS hA [0, 1, 2, 3, 4, 5, 6, 7, 8] rfl
      refine va_callv (va_runV (As := [.int v2, .int r13, .int v4]) (rest := []) ⟨hx, hb, hml, hown, hts⟩ (met_X7_put l dC dI cI cZ cS aM u9 hs H3.size v2 r13 v4 u15 hc16) (cwV 3 hts gX7_puts_X7_put rfl rfl rfl (by decide +kernel) ⟨Nat.le_of_ble_eq_true rfl, Nat.le_of_ble_eq_true rfl⟩) (pV (wc := wMo cI aM u9 hs) (ci := 7) (q0 := 0) hK hP hD hN [0, 1, 2, 3, 4, 5, 6, 7, 8] rfl (by decide) rfl rfl) rfl rfl hl.1 rfl (lv_room (Nat.le_of_ble_eq_true rfl)) dX7_puts_58 ⟨Nat.zero_le _, Nat.zero_le _⟩) hS (fun q _ h => hF q h) hF (fun  u15 t H4 locs ht hvm hw hB hz1 hk1 hS => ?_)
      try dsimp only at hw hB
      rw [ht] at hB
      cases hw
      have hP := wrk (w2 := wMo cI aM u15 hs) hP hD [0, 1, 2, 3, 4, 5, 6, 7, 8] rfl (by decide) hk1 hB rfl rfl
      have hD := D_addr (w1 := wMo cI aM u15 hs) hD rfl
      refine lv_iload hx hb dX7_puts_61 (lv_at hl 0 rfl) ?_
      exact W.zret (v := (1 : Int32)) (ty := .boolean) hx hb hr rfl (fun t ht hW => ⟨⟨(1 : Int32), u15, rfl, ⟨Option.some.inj hR, rfl⟩, P_at ht hP⟩, hS.F ht⟩) hS.2.2 dX7_puts_63
abbrev rm_X7_read : Room := { frames := 9, cells := 0, slots := 0, locals := 208 }
abbrev q_X7_read (dC : Nat → ClassId) (dI : Nat → Nat → Nat) (cI cZ cS : ClassId) (aM : Nat → Nat) (hs : Int64) (res : Int32 × Pic) (A : Nat → Prop) : Array Value → State → Outcome → State → Prop := va_Qi (fun (r : Int32) (u : Pic) => (r, u) = res) (fun u t => va_P (dC, dI) vwCl (wMo cI aM u hs) t.heap) A
set_option maxHeartbeats 4000000 in
set_option maxRecDepth 100000 in
theorem met_X7_read (l : Launch) (dC : Nat → ClassId) (dI : Nat → Nat → Nat) (cI cZ cS : ClassId) (aM : Nat → Nat) (M : Pic) (hs : Int64) (sz : Nat)  (res : Int32 × Pic) (hR : f7_read M = some res) : Met l yX7_read wsX7_read rm_X7_read (va_Pc [.ref (aM 0)] (pW (dC, dI) (tyS cI cZ cS) (wMo cI aM M hs) sz)) (q_X7_read dC dI cI cZ cS aM hs res (va_A (wMo cI aM M hs) sz)) 0 0 (va_A (wMo cI aM M hs) sz) := by
  refine Met.ofW (cc := cX7_read) (maxL := 3) (ret := (some .int)) (by decide) rfl ?_
  intro p e s m args below meth c s₁ B hml hv
  obtain ⟨rfl, hsz, hP, hK, hD0, hN⟩ := hv
  have hx := B.exec
  have hb := B.bytes
  have hr := B.returns
  have hts := atoms_spec (ws := wsX7_read) B.pre
  have hown : s.vm.findClass RX7 = some m.cls := findClass_of_methodNamed B.named
  have hlocks := B.notSynchronized
  subst hsz
  have hD := hD0.self (sz := s.heap.size)
  generalize hAe : va_A (wMo cI aM M hs) s.heap.size = A at hD ⊢
  have hA : ∀ q : Nat, s.heap.size ≤ q → A q := fun q h => by rw [← hAe]; exact Or.inr h
  have hS : va_S A s.heap s.heap [] := va_S.rf
  have hP : va_P (dC, dI) vwCl (wMo cI aM M hs) s.heap := hP
  rw [f7_read] at hR
  have hin7 : ∀ w ∈ wsX70, w ∈ wsX7_read := by decide +kernel
  have hl := lv_entry ([.ref (aM 0)]) (n := 3) (Nat.le_of_ble_eq_true rfl)
  rw [lg_entry_eq]
  generalize (lg_sl ([.ref (aM 0)]) ++ List.replicate (3 - (lg_sl ([.ref (aM 0)])).length) Slot.unset).toArray = ls at hl ⊢
  have hl : lv_has ls 3 [(0, .ref (aM 0))] := hl
  refine lv_aload_n hx hb dX7_read_0 rfl (lv_at hl 0 rfl) ?_
  obtain ⟨r1, u2, hc3, hR⟩ := ob2_e hR
  have hF := va_free (wc := wMo cI aM M hs) hD hS hA [0, 1, 2, 3, 4, 5, 6, 7, 8] rfl
  refine va_calli (va_runV (As := []) (rest := []) ⟨hx, hb, hml, hown, hts⟩ (met_X7_rightUpTo l dC dI cI cZ cS aM M hs s.heap.size (r1, u2) hc3) (cwV 0 hts gX7_read_X7_rightUpTo rfl rfl rfl (by decide +kernel) ⟨Nat.le_of_ble_eq_true rfl, Nat.le_of_ble_eq_true rfl⟩) (pV (wc := wMo cI aM M hs) (ci := 7) (q0 := 0) hK hP hD hN [0, 1, 2, 3, 4, 5, 6, 7, 8] rfl (by decide) rfl rfl) rfl rfl hl.1 rfl (lv_room (Nat.le_of_ble_eq_true rfl)) dX7_read_1 ⟨Nat.zero_le _, Nat.zero_le _⟩) hS (fun q _ h => hF q h) hF (fun r1 u2 t H1 locs ht hvm hw hB hz1 hk1 hS => ?_)
  try dsimp only at hw hB
  rw [ht] at hB
  cases hw
  have hP := wrk (w2 := wMo cI aM u2 hs) hP hD [0, 1, 2, 3, 4, 5, 6, 7, 8] rfl (by decide) hk1 hB rfl rfl
  have hD := D_addr (w1 := wMo cI aM u2 hs) hD rfl
  refine lv_aload_n hx hb dX7_read_4 rfl (lv_at hl 0 rfl) ?_
  refine va_get (D := (dC, dI)) (ci := 7) (v := .int ((u2 5) 0)) (C := RX7) (T := TX7) (N := 15) hx hb hts hin7 hown hK hP 0 rfl rfl 5 (by decide) (hw_ hts 1 rfl) (fun _ h9 => h9) rfl dX7_read_5 ?_
  refine lv_icmp_ne (tgt := 23) hx hb dX7_read_8 (by decide) (fun c_4 => ?_) (fun c_4 => ?_)
  · rw [if_neg c_4] at hR
    refine lv_iconst (v := (0 : Int32)) hx hb dX7_read_23 (by decide) ?_
    refine lv_istore_n (lv' := [(1, .int (0 : Int32)), (0, .ref (aM 0))]) hx hb dX7_read_24 rfl hl (by decide) rfl (fun ls hl => ?_)
    refine lv_aload_n hx hb dX7_read_25 rfl (lv_at hl 1 rfl) ?_
    refine lv_iload_n hx hb dX7_read_26 rfl (lv_at hl 0 rfl) ?_
    refine lv_if_eq (tgt := 34) hx hb dX7_read_27 (by decide) (fun _ => ?_) (fun q => absurd (by decide) q)
    refine lv_iconst (v := (1 : Int32)) hx hb dX7_read_34 (by decide) ?_
    refine va_put (D := (dC, dI)) (ci := 7) (v := .int (1 : Int32)) (ty := .int) (C := RX7) (T := TX7) (N := 15) hx hb hts hin7 tyX7 tyX7_ok nmX7 hown hK hP hD hS 0 rfl rfl 7 (by decide) (hw_ hts 3 rfl) (fun _ h9 => h9) rfl (by decide +kernel) rfl rfl (Nat.le_of_ble_eq_true rfl) dX7_read_35 (fun H2 locs hP hD hS => ?_)
    have hP : va_P (dC, dI) vwCl (wMo cI aM (pset u2 7 (fun _ => (1 : Int32))) hs) H2 := hP
    have hD : va_D A (wMo cI aM (pset u2 7 (fun _ => (1 : Int32))) hs) := hD
    refine lv_aload_n hx hb dX7_read_38 rfl (lv_at hl 1 rfl) ?_
    refine va_get (D := (dC, dI)) (ci := 7) (v := .int (1 : Int32)) (C := RX7) (T := TX7) (N := 15) hx hb hts hin7 hown hK hP 0 rfl rfl 7 (by decide) (hw_ hts 3 rfl) (fun _ h9 => h9) rfl dX7_read_39 ?_
    refine lv_if_le (tgt := 47) hx hb dX7_read_42 (by decide) (fun q => absurd q (by decide)) (fun _ => ?_)
    refine lv_iconst (v := (0 : Int32)) hx hb dX7_read_45 (by decide) ?_
    exact W.iret (v := (0 : Int32)) hx hb hr (fun t ht hW => ⟨⟨(0 : Int32), (pset u2 7 (fun _ => (1 : Int32))), rfl, Option.some.inj hR, P_at ht hP⟩, hS.F ht⟩) hS.2.2 dX7_read_46
  · rw [if_pos c_4] at hR
    refine lv_aload_n hx hb dX7_read_11 rfl (lv_at hl 0 rfl) ?_
    refine va_get (D := (dC, dI)) (ci := 7) (v := .int ((u2 13) 0)) (C := RX7) (T := TX7) (N := 15) hx hb hts hin7 hown hK hP 0 rfl rfl 13 (by decide) (hw_ hts 2 rfl) (fun _ h9 => h9) rfl dX7_read_12 ?_
    refine lv_iconst (v := (3 : Int32)) hx hb dX7_read_15 (by decide) ?_
    refine lv_icmp_ne (tgt := 23) hx hb dX7_read_16 (by decide) (fun c_5 => ?_) (fun c_5 => ?_)
    · rw [if_neg c_5] at hR
      refine lv_iconst (v := (0 : Int32)) hx hb dX7_read_23 (by decide) ?_
      refine lv_istore_n (lv' := [(1, .int (0 : Int32)), (0, .ref (aM 0))]) hx hb dX7_read_24 rfl hl (by decide) rfl (fun ls hl => ?_)
      refine lv_aload_n hx hb dX7_read_25 rfl (lv_at hl 1 rfl) ?_
      refine lv_iload_n hx hb dX7_read_26 rfl (lv_at hl 0 rfl) ?_
      refine lv_if_eq (tgt := 34) hx hb dX7_read_27 (by decide) (fun _ => ?_) (fun q => absurd (by decide) q)
      refine lv_iconst (v := (1 : Int32)) hx hb dX7_read_34 (by decide) ?_
      refine va_put (D := (dC, dI)) (ci := 7) (v := .int (1 : Int32)) (ty := .int) (C := RX7) (T := TX7) (N := 15) hx hb hts hin7 tyX7 tyX7_ok nmX7 hown hK hP hD hS 0 rfl rfl 7 (by decide) (hw_ hts 3 rfl) (fun _ h9 => h9) rfl (by decide +kernel) rfl rfl (Nat.le_of_ble_eq_true rfl) dX7_read_35 (fun H2 locs hP hD hS => ?_)
      have hP : va_P (dC, dI) vwCl (wMo cI aM (pset u2 7 (fun _ => (1 : Int32))) hs) H2 := hP
      have hD : va_D A (wMo cI aM (pset u2 7 (fun _ => (1 : Int32))) hs) := hD
      refine lv_aload_n hx hb dX7_read_38 rfl (lv_at hl 1 rfl) ?_
      refine va_get (D := (dC, dI)) (ci := 7) (v := .int (1 : Int32)) (C := RX7) (T := TX7) (N := 15) hx hb hts hin7 hown hK hP 0 rfl rfl 7 (by decide) (hw_ hts 3 rfl) (fun _ h9 => h9) rfl dX7_read_39 ?_
      refine lv_if_le (tgt := 47) hx hb dX7_read_42 (by decide) (fun q => absurd q (by decide)) (fun _ => ?_)
      refine lv_iconst (v := (0 : Int32)) hx hb dX7_read_45 (by decide) ?_
      exact W.iret (v := (0 : Int32)) hx hb hr (fun t ht hW => ⟨⟨(0 : Int32), (pset u2 7 (fun _ => (1 : Int32))), rfl, Option.some.inj hR, P_at ht hP⟩, hS.F ht⟩) hS.2.2 dX7_read_46
    · rw [if_pos c_5] at hR
      refine lv_iconst (v := (1 : Int32)) hx hb dX7_read_19 (by decide) ?_
      refine lv_goto (tgt := 24) hx hb dX7_read_20 (by decide) ?_
      refine lv_istore_n (lv' := [(1, .int (1 : Int32)), (0, .ref (aM 0))]) hx hb dX7_read_24 rfl hl (by decide) rfl (fun ls hl => ?_)
      refine lv_aload_n hx hb dX7_read_25 rfl (lv_at hl 1 rfl) ?_
      refine lv_iload_n hx hb dX7_read_26 rfl (lv_at hl 0 rfl) ?_
      refine lv_if_eq (tgt := 34) hx hb dX7_read_27 (by decide) (fun q => absurd q (by decide)) (fun _ => ?_)
      refine lv_iconst (v := (0 : Int32)) hx hb dX7_read_30 (by decide) ?_
      refine lv_goto (tgt := 35) hx hb dX7_read_31 (by decide) ?_
      refine va_put (D := (dC, dI)) (ci := 7) (v := .int (0 : Int32)) (ty := .int) (C := RX7) (T := TX7) (N := 15) hx hb hts hin7 tyX7 tyX7_ok nmX7 hown hK hP hD hS 0 rfl rfl 7 (by decide) (hw_ hts 3 rfl) (fun _ h9 => h9) rfl (by decide +kernel) rfl rfl (Nat.le_of_ble_eq_true rfl) dX7_read_35 (fun H2 locs hP hD hS => ?_)
      have hP : va_P (dC, dI) vwCl (wMo cI aM (pset u2 7 (fun _ => (0 : Int32))) hs) H2 := hP
      have hD : va_D A (wMo cI aM (pset u2 7 (fun _ => (0 : Int32))) hs) := hD
      refine lv_aload_n hx hb dX7_read_38 rfl (lv_at hl 1 rfl) ?_
      refine va_get (D := (dC, dI)) (ci := 7) (v := .int (0 : Int32)) (C := RX7) (T := TX7) (N := 15) hx hb hts hin7 hown hK hP 0 rfl rfl 7 (by decide) (hw_ hts 3 rfl) (fun _ h9 => h9) rfl dX7_read_39 ?_
      refine lv_if_le (tgt := 47) hx hb dX7_read_42 (by decide) (fun _ => ?_) (fun q => absurd (by decide) q)
      refine lv_aload_n hx hb dX7_read_47 rfl (lv_at hl 1 rfl) ?_
      obtain ⟨u6, hc7, hR⟩ := ob1_e hR
      have hF := va_free (wc := wMo cI aM (pset u2 7 (fun _ => (0 : Int32))) hs) hD hS hA [0, 1, 2, 3, 4, 5, 6, 7, 8] rfl
      refine va_callv (va_runV (As := []) (rest := []) ⟨hx, hb, hml, hown, hts⟩ (met_X7_save l dC dI cI cZ cS aM (pset u2 7 (fun _ => (0 : Int32))) hs H2.size u6 hc7) (cwV 0 hts gX7_read_X7_save rfl rfl rfl (by decide +kernel) ⟨Nat.le_of_ble_eq_true rfl, Nat.le_of_ble_eq_true rfl⟩) (pV (wc := wMo cI aM (pset u2 7 (fun _ => (0 : Int32))) hs) (ci := 7) (q0 := 0) hK hP hD hN [0, 1, 2, 3, 4, 5, 6, 7, 8] rfl (by decide) rfl rfl) rfl rfl hl.1 rfl (lv_room (Nat.le_of_ble_eq_true rfl)) dX7_read_48 ⟨Nat.zero_le _, Nat.zero_le _⟩) hS (fun q _ h => hF q h) hF (fun  u6 t H3 locs ht hvm hw hB hz1 hk1 hS => ?_)
      try dsimp only at hw hB
      rw [ht] at hB
      cases hw
      have hP := wrk (w2 := wMo cI aM u6 hs) hP hD [0, 1, 2, 3, 4, 5, 6, 7, 8] rfl (by decide) hk1 hB rfl rfl
      have hD := D_addr (w1 := wMo cI aM u6 hs) hD rfl
      refine lv_aload_n hx hb dX7_read_51 rfl (lv_at hl 1 rfl) ?_
      refine lv_iconst (v := (0 : Int32)) hx hb dX7_read_52 (by decide) ?_
      refine va_put (D := (dC, dI)) (ci := 7) (v := .int (0 : Int32)) (ty := .int) (C := RX7) (T := TX7) (N := 15) hx hb hts hin7 tyX7 tyX7_ok nmX7 hown hK hP hD hS 0 rfl rfl 5 (by decide) (hw_ hts 1 rfl) (fun _ h9 => h9) rfl (by decide +kernel) rfl rfl (Nat.le_of_ble_eq_true rfl) dX7_read_53 (fun H4 locs hP hD hS => ?_)
      have hP : va_P (dC, dI) vwCl (wMo cI aM (pset u6 5 (fun _ => (0 : Int32))) hs) H4 := hP
      have hD : va_D A (wMo cI aM (pset u6 5 (fun _ => (0 : Int32))) hs) := hD
      refine lv_iconst (v := (0 : Int32)) hx hb dX7_read_56 (by decide) ?_
      refine lv_istore_n (lv' := [(2, .int (0 : Int32)), (1, .int (1 : Int32)), (0, .ref (aM 0))]) hx hb dX7_read_57 rfl hl (by decide) rfl (fun ls hl => ?_)
      have LOOP58 : ∀ (k : Int32 → Pic → (Option (Int32 × Pic))), (∀ (x2_58 : Int32) (M_58 : Pic) (H5 : Heap) (locs : List Loc), k x2_58 M_58 = some res → va_P (dC, dI) vwCl (wMo cI aM M_58 hs) H5 → va_D A (wMo cI aM M_58 hs) → va_S A s.heap H5 locs → ∀ (ls : Array Slot), lv_has ls 3 [(2, .int x2_58)] → W p l e (headSpec wsX7_read rm_X7_read).room s m ([.ref (aM 0)] : List Value).toArray below meth c H5 locs 0 0 (MQ below (q_X7_read dC dI cI cZ cS aM hs res A) ([.ref (aM 0)] : List Value).toArray s 0 0 A) (F0 m 80 ls [])) → ∀ (nf : Nat) (x2_58 : Int32) (M_58 : Pic) (H5 : Heap) (locs : List Loc), f7_read_L58  nf x2_58 M_58 k = some res → va_P (dC, dI) vwCl (wMo cI aM M_58 hs) H5 → va_D A (wMo cI aM M_58 hs) → va_S A s.heap H5 locs → ∀ (ls : Array Slot), lv_has ls 3 [(2, .int x2_58), (0, .ref (aM 0))] → W p l e (headSpec wsX7_read rm_X7_read).room s m ([.ref (aM 0)] : List Value).toArray below meth c H5 locs 0 0 (MQ below (q_X7_read dC dI cI cZ cS aM hs res A) ([.ref (aM 0)] : List Value).toArray s 0 0 A) (F0 m 58 ls []) := by
        intro k hk nf
        induction nf with
        | zero =>
          intro x2_58 M_58 H5 locs hR hP hD hS ls hl
          rw [f7_read_L58] at hR
          cases hR
        | succ nf ih =>
          intro x2_58 M_58 H5 locs hR hP hD hS ls hl
          rw [f7_read_L58] at hR
          refine lv_iload_n hx hb dX7_read_58 rfl (lv_at hl 0 rfl) ?_
          refine lv_aload_n hx hb dX7_read_59 rfl (lv_at hl 1 rfl) ?_
          refine va_get (D := (dC, dI)) (ci := 7) (v := .int ((M_58 11) 0)) (C := RX7) (T := TX7) (N := 15) hx hb hts hin7 hown hK hP 0 rfl rfl 11 (by decide) (hw_ hts 4 rfl) (fun _ h9 => h9) rfl dX7_read_60 ?_
          refine lv_icmp_gt (tgt := 80) hx hb dX7_read_63 (by decide) (fun c_8 => ?_) (fun c_8 => ?_)
          · rw [if_pos c_8] at hR
            exact hk x2_58 M_58 _ _  hR hP hD hS ls (lv_sub hl [0] rfl)
          · rw [if_neg c_8] at hR
            refine lv_aload_n hx hb dX7_read_66 rfl (lv_at hl 1 rfl) ?_
            refine lv_iload_n hx hb dX7_read_67 rfl (lv_at hl 0 rfl) ?_
            obtain ⟨r9, u10, hc11, hR⟩ := ob2_e hR
            have hF := va_free (wc := wMo cI aM M_58 hs) hD hS hA [0, 1, 2, 3, 4, 5, 6, 7, 8] rfl
            refine va_calli (va_runV (As := [.int x2_58]) (rest := []) ⟨hx, hb, hml, hown, hts⟩ (met_X7_puts l dC dI cI cZ cS aM M_58 hs H5.size x2_58 (r9, u10) hc11) (cwV 1 hts gX7_read_X7_puts rfl rfl rfl (by decide +kernel) ⟨Nat.le_of_ble_eq_true rfl, Nat.le_of_ble_eq_true rfl⟩) (pV (wc := wMo cI aM M_58 hs) (ci := 7) (q0 := 0) hK hP hD hN [0, 1, 2, 3, 4, 5, 6, 7, 8] rfl (by decide) rfl rfl) rfl rfl hl.1 rfl (lv_room (Nat.le_of_ble_eq_true rfl)) dX7_read_68 ⟨Nat.zero_le _, Nat.zero_le _⟩) hS (fun q _ h => hF q h) hF (fun r9 u10 t H6 locs ht hvm hw hB hz1 hk1 hS => ?_)
            obtain ⟨hw, nb12⟩ := hw
            try dsimp only at hw hB
            rw [ht] at hB
            cases hw
            have hP := wrk (w2 := wMo cI aM u10 hs) hP hD [0, 1, 2, 3, 4, 5, 6, 7, 8] rfl (by decide) hk1 hB rfl rfl
            have hD := D_addr (w1 := wMo cI aM u10 hs) hD rfl
            refine lv_if_eq (tgt := 80) hx hb dX7_read_71 (by decide) (fun c_13 => ?_) (fun c_13 => ?_)
            · rw [if_pos c_13] at hR
              exact hk x2_58 u10 _ _  hR hP hD hS ls (lv_sub hl [0] rfl)
            · rw [if_neg c_13] at hR
              refine lv_iinc (v := (x2_58 + 1)) (lv' := [(2, .int (x2_58 + 1)), (0, .ref (aM 0))]) hx hb dX7_read_74 hl (k := 0) rfl rfl (by decide) rfl (fun ls hl => ?_)
              refine lv_goto (tgt := 58) hx hb dX7_read_77 (by decide) ?_
              exact ih (x2_58 + 1) u10 _ _  hR hP hD hS ls (lv_sub hl [0, 1] rfl)
      refine LOOP58 (fun x2_58 M_58 => (some (x2_58, M_58))) (fun x2_58 M_58 H5 locs hR hP hD hS ls hl => ?_) 20 (0 : Int32) (pset u6 5 (fun _ => (0 : Int32))) _ _  hR hP hD hS ls (lv_sub hl [0, 2] rfl)
      try dsimp only at hR
      refine lv_iload_n hx hb dX7_read_80 rfl (lv_at hl 0 rfl) ?_
      exact W.iret (v := x2_58) hx hb hr (fun t ht hW => ⟨⟨x2_58, M_58, rfl, Option.some.inj hR, P_at ht hP⟩, hS.F ht⟩) hS.2.2 dX7_read_81
abbrev rm_X7_take : Room := { frames := 2, cells := 0, slots := 0, locals := 42 }
abbrev q_X7_take (dC : Nat → ClassId) (dI : Nat → Nat → Nat) (cI cZ cS : ClassId) (aM : Nat → Nat) (hs : Int64) (res : Int32 × Pic) (A : Nat → Prop) : Array Value → State → Outcome → State → Prop := va_Qi (fun (r : Int32) (u : Pic) => (r, u) = res) (fun u t => va_P (dC, dI) vwCl (wMo cI aM u hs) t.heap) A
set_option maxHeartbeats 4000000 in
set_option maxRecDepth 100000 in
theorem met_X7_take (l : Launch) (dC : Nat → ClassId) (dI : Nat → Nat → Nat) (cI cZ cS : ClassId) (aM : Nat → Nat) (M : Pic) (hs : Int64) (sz : Nat) (p1 : Int32) (res : Int32 × Pic) (hR : f7_take M p1 = some res) : Met l yX7_take wsX7_take rm_X7_take (va_Pc [.ref (aM 0), .int p1] (pW (dC, dI) (tyS cI cZ cS) (wMo cI aM M hs) sz)) (q_X7_take dC dI cI cZ cS aM hs res (va_A (wMo cI aM M hs) sz)) 0 0 (va_A (wMo cI aM M hs) sz) := by
  refine Met.ofW (cc := cX7_take) (maxL := 3) (ret := (some .int)) (by decide) rfl ?_
  intro p e s m args below meth c s₁ B hml hv
  obtain ⟨rfl, hsz, hP, hK, hD0, hN⟩ := hv
  have hx := B.exec
  have hb := B.bytes
  have hr := B.returns
  have hts := atoms_spec (ws := wsX7_take) B.pre
  have hown : s.vm.findClass RX7 = some m.cls := findClass_of_methodNamed B.named
  have hlocks := B.notSynchronized
  subst hsz
  have hD := hD0.self (sz := s.heap.size)
  generalize hAe : va_A (wMo cI aM M hs) s.heap.size = A at hD ⊢
  have hA : ∀ q : Nat, s.heap.size ≤ q → A q := fun q h => by rw [← hAe]; exact Or.inr h
  have hS : va_S A s.heap s.heap [] := va_S.rf
  have hP : va_P (dC, dI) vwCl (wMo cI aM M hs) s.heap := hP
  rw [f7_take] at hR
  have hin7 : ∀ w ∈ wsX70, w ∈ wsX7_take := by decide +kernel
  have hl := lv_entry ([.ref (aM 0), .int p1]) (n := 3) (Nat.le_of_ble_eq_true rfl)
  rw [lg_entry_eq]
  generalize (lg_sl ([.ref (aM 0), .int p1]) ++ List.replicate (3 - (lg_sl ([.ref (aM 0), .int p1])).length) Slot.unset).toArray = ls at hl ⊢
  have hl : lv_has ls 3 [(0, .ref (aM 0)), (1, .int p1)] := hl
  refine lv_aload_n hx hb dX7_take_0 rfl (lv_at hl 0 rfl) ?_
  refine lv_iload_n hx hb dX7_take_1 rfl (lv_at hl 1 rfl) ?_
  refine va_calli (va_runS (As := [.int p1]) (rest := [.ref (aM 0)]) ⟨hx, hb, hml, hown, hts⟩ (met_X7_isSnapshot l dC dI cI cZ cS s.heap.size p1) (va_cwS 1 hts gX7_take_X7_isSnapshot rfl rfl rfl (by decide +kernel) ⟨Nat.le_of_ble_eq_true rfl, Nat.le_of_ble_eq_true rfl⟩) (pS (wc := []) hK hP hD hN [] rfl (by decide)) rfl rfl hl.1 rfl (lv_room (Nat.le_of_ble_eq_true rfl)) dX7_take_2 ⟨Nat.zero_le _, Nat.zero_le _⟩) hS (fun q _ h => a0_in hS hA q h) (a0_in hS hA) (fun r1 u t H1 locs ht hvm hw hB hz1 hk1 hS => ?_)
  obtain ⟨hw, nb2⟩ := hw
  subst hw
  have hP := rdk hP hk1
  refine lv_if_eq (tgt := 12) hx hb dX7_take_5 (by decide) (fun c_3 => ?_) (fun c_3 => ?_)
  · rw [if_pos c_3] at hR
    refine lv_iconst (v := (1 : Int32)) hx hb dX7_take_12 (by decide) ?_
    refine va_put (D := (dC, dI)) (ci := 7) (v := .int (1 : Int32)) (ty := .int) (C := RX7) (T := TX7) (N := 15) hx hb hts hin7 tyX7 tyX7_ok nmX7 hown hK hP hD hS 0 rfl rfl 7 (by decide) (hw_ hts 1 rfl) (fun _ h9 => h9) rfl (by decide +kernel) rfl rfl (Nat.le_of_ble_eq_true rfl) dX7_take_13 (fun H2 locs hP hD hS => ?_)
    have hP : va_P (dC, dI) vwCl (wMo cI aM (pset M 7 (fun _ => (1 : Int32))) hs) H2 := hP
    have hD : va_D A (wMo cI aM (pset M 7 (fun _ => (1 : Int32))) hs) := hD
    refine lv_aload_n hx hb dX7_take_16 rfl (lv_at hl 0 rfl) ?_
    refine va_get (D := (dC, dI)) (ci := 7) (v := .int (1 : Int32)) (C := RX7) (T := TX7) (N := 15) hx hb hts hin7 hown hK hP 0 rfl rfl 7 (by decide) (hw_ hts 1 rfl) (fun _ h9 => h9) rfl dX7_take_17 ?_
    refine lv_if_le (tgt := 25) hx hb dX7_take_20 (by decide) (fun q => absurd q (by decide)) (fun _ => ?_)
    refine lv_iconst (v := (0 : Int32)) hx hb dX7_take_23 (by decide) ?_
    exact W.iret (v := (0 : Int32)) hx hb hr (fun t ht hW => ⟨⟨(0 : Int32), (pset M 7 (fun _ => (1 : Int32))), rfl, Option.some.inj hR, P_at ht hP⟩, hS.F ht⟩) hS.2.2 dX7_take_24
  · rw [if_neg c_3] at hR
    refine lv_iconst (v := (0 : Int32)) hx hb dX7_take_8 (by decide) ?_
    refine lv_goto (tgt := 13) hx hb dX7_take_9 (by decide) ?_
    refine va_put (D := (dC, dI)) (ci := 7) (v := .int (0 : Int32)) (ty := .int) (C := RX7) (T := TX7) (N := 15) hx hb hts hin7 tyX7 tyX7_ok nmX7 hown hK hP hD hS 0 rfl rfl 7 (by decide) (hw_ hts 1 rfl) (fun _ h9 => h9) rfl (by decide +kernel) rfl rfl (Nat.le_of_ble_eq_true rfl) dX7_take_13 (fun H2 locs hP hD hS => ?_)
    have hP : va_P (dC, dI) vwCl (wMo cI aM (pset M 7 (fun _ => (0 : Int32))) hs) H2 := hP
    have hD : va_D A (wMo cI aM (pset M 7 (fun _ => (0 : Int32))) hs) := hD
    refine lv_aload_n hx hb dX7_take_16 rfl (lv_at hl 0 rfl) ?_
    refine va_get (D := (dC, dI)) (ci := 7) (v := .int (0 : Int32)) (C := RX7) (T := TX7) (N := 15) hx hb hts hin7 hown hK hP 0 rfl rfl 7 (by decide) (hw_ hts 1 rfl) (fun _ h9 => h9) rfl dX7_take_17 ?_
    refine lv_if_le (tgt := 25) hx hb dX7_take_20 (by decide) (fun _ => ?_) (fun q => absurd (by decide) q)
    refine lv_aload_n hx hb dX7_take_25 rfl (lv_at hl 0 rfl) ?_
    refine va_get (D := (dC, dI)) (ci := 7) (v := .ref (aM 4)) (C := RX7) (T := TX7) (N := 15) hx hb hts hin7 hown hK hP 0 rfl rfl 4 (by decide) (hw_ hts 2 rfl) (fun _ h9 => h9) rfl dX7_take_26 ?_
    refine lv_iload_n hx hb dX7_take_29 rfl (lv_at hl 1 rfl) ?_
    refine lv_iconst (v := (1 : Int32)) hx hb dX7_take_30 (by decide) ?_
    obtain ⟨hix4, hR⟩ := ck_some hR
    refine va_iast (f := (M 4)) hx hb hK hP hD hS 4 0 rfl rfl hix4 dX7_take_31 (fun H3 locs hP hD hS => ?_)
    have hP : va_P (dC, dI) vwCl (wMo cI aM (pset (pset M 4 (upd (M 4) (ix p1) (1 : Int32))) 7 (fun _ => (0 : Int32))) hs) H3 := hP
    have hD : va_D A (wMo cI aM (pset (pset M 4 (upd (M 4) (ix p1) (1 : Int32))) 7 (fun _ => (0 : Int32))) hs) := hD
    obtain ⟨Mb5, hMb5⟩ : ∃ z : Pic, z = (pset (pset M 4 (upd (M 4) (ix p1) (1 : Int32))) 7 (fun _ => (0 : Int32))) := ⟨_, rfl⟩
    rw [← hMb5] at hP hD
    have hR := bd_n hMb5 hR
    refine lv_iconst (v := (0 : Int32)) hx hb dX7_take_32 (by decide) ?_
    refine lv_istore_n (lv' := [(2, .int (0 : Int32)), (0, .ref (aM 0)), (1, .int p1)]) hx hb dX7_take_33 rfl hl (by decide) rfl (fun ls hl => ?_)
    have LOOP34 : ∀ (k : Pic → (Option (Int32 × Pic))), (∀ (M_34 : Pic) (H4 : Heap) (locs : List Loc), k M_34 = some res → va_P (dC, dI) vwCl (wMo cI aM M_34 hs) H4 → va_D A (wMo cI aM M_34 hs) → va_S A s.heap H4 locs → ∀ (ls : Array Slot), lv_has ls 3 [(0, .ref (aM 0))] → W p l e (headSpec wsX7_take rm_X7_take).room s m ([.ref (aM 0), .int p1] : List Value).toArray below meth c H4 locs 0 0 (MQ below (q_X7_take dC dI cI cZ cS aM hs res A) ([.ref (aM 0), .int p1] : List Value).toArray s 0 0 A) (F0 m 66 ls [])) → ∀ (nf : Nat) (x2_34 : Int32) (M_34 : Pic) (H4 : Heap) (locs : List Loc), ((84 : Int32)).toInt - (x2_34).toInt ≤ (nf : Int) → f7_take_L34 p1 nf x2_34 M_34 k = some res → va_P (dC, dI) vwCl (wMo cI aM M_34 hs) H4 → va_D A (wMo cI aM M_34 hs) → va_S A s.heap H4 locs → ∀ (ls : Array Slot), lv_has ls 3 [(2, .int x2_34), (0, .ref (aM 0)), (1, .int p1)] → W p l e (headSpec wsX7_take rm_X7_take).room s m ([.ref (aM 0), .int p1] : List Value).toArray below meth c H4 locs 0 0 (MQ below (q_X7_take dC dI cI cZ cS aM hs res A) ([.ref (aM 0), .int p1] : List Value).toArray s 0 0 A) (F0 m 34 ls []) := by
      intro k hk nf
      induction nf with
      | zero =>
        intro x2_34 M_34 H4 locs hfu hR hP hD hS ls hl
        rw [f7_take_L34] at hR
        refine lv_iload_n hx hb dX7_take_34 rfl (lv_at hl 0 rfl) ?_
        refine lv_bipush (v := (84 : Int32)) hx hb dX7_take_35 (by decide) ?_
        refine lv_icmp_ge (tgt := 66) hx hb dX7_take_37 (by decide) (fun c_6 => ?_) (fun c_6 => ?_)
        · skip
          exact hk M_34 _ _  hR hP hD hS ls (lv_sub hl [1] rfl)
        · exact (fuel0 hfu c_6).elim
      | succ nf ih =>
        intro x2_34 M_34 H4 locs hfu hR hP hD hS ls hl
        rw [f7_take_L34] at hR
        refine lv_iload_n hx hb dX7_take_34 rfl (lv_at hl 0 rfl) ?_
        refine lv_bipush (v := (84 : Int32)) hx hb dX7_take_35 (by decide) ?_
        refine lv_icmp_ge (tgt := 66) hx hb dX7_take_37 (by decide) (fun c_7 => ?_) (fun c_7 => ?_)
        · rw [if_pos c_7] at hR
          exact hk M_34 _ _  hR hP hD hS ls (lv_sub hl [1] rfl)
        · rw [if_neg c_7] at hR
          have hfu := fuelS hfu c_7
          refine lv_aload_n hx hb dX7_take_40 rfl (lv_at hl 1 rfl) ?_
          refine va_get (D := (dC, dI)) (ci := 7) (v := .ref (aM 3)) (C := RX7) (T := TX7) (N := 15) hx hb hts hin7 hown hK hP 0 rfl rfl 3 (by decide) (hw_ hts 3 rfl) (fun _ h9 => h9) rfl dX7_take_41 ?_
          refine lv_bipush (v := (84 : Int32)) hx hb dX7_take_44 (by decide) ?_
          refine lv_iload_n hx hb dX7_take_46 rfl (lv_at hl 2 rfl) ?_
          refine lv_imul hx hb dX7_take_47 ?_
          refine lv_iload_n hx hb dX7_take_48 rfl (lv_at hl 0 rfl) ?_
          refine lv_iadd hx hb dX7_take_49 ?_
          refine lv_aload_n hx hb dX7_take_50 rfl (lv_at hl 1 rfl) ?_
          refine va_get (D := (dC, dI)) (ci := 7) (v := .ref (aM 1)) (C := RX7) (T := TX7) (N := 15) hx hb hts hin7 hown hK hP 0 rfl rfl 0 (by decide) (hw_ hts 4 rfl) (fun _ h9 => h9) rfl dX7_take_51 ?_
          refine lv_bipush (v := (89 : Int32)) hx hb dX7_take_54 (by decide) ?_
          refine lv_iload_n hx hb dX7_take_56 rfl (lv_at hl 0 rfl) ?_
          refine lv_iadd hx hb dX7_take_57 ?_
          obtain ⟨hix8, hR⟩ := ck_some hR
          refine va_iald (f := (M_34 0)) hx hb hK hP 1 0 rfl rfl hix8 dX7_take_58 ?_
          obtain ⟨hix9, hR⟩ := ck_some hR
          refine va_iast (f := (M_34 3)) hx hb hK hP hD hS 3 0 rfl rfl hix9 dX7_take_59 (fun H5 locs hP hD hS => ?_)
          have hP : va_P (dC, dI) vwCl (wMo cI aM (pset M_34 3 (upd (M_34 3) (ix (((84 : Int32) * p1) + x2_34)) ((M_34 0) (ix ((89 : Int32) + x2_34))))) hs) H5 := hP
          have hD : va_D A (wMo cI aM (pset M_34 3 (upd (M_34 3) (ix (((84 : Int32) * p1) + x2_34)) ((M_34 0) (ix ((89 : Int32) + x2_34))))) hs) := hD
          obtain ⟨Mb10, hMb10⟩ : ∃ z : Pic, z = (pset M_34 3 (upd (M_34 3) (ix (((84 : Int32) * p1) + x2_34)) ((M_34 0) (ix ((89 : Int32) + x2_34))))) := ⟨_, rfl⟩
          rw [← hMb10] at hP hD
          have hR := bd_n hMb10 hR
          refine lv_iinc (v := (x2_34 + 1)) (lv' := [(2, .int (x2_34 + 1)), (0, .ref (aM 0)), (1, .int p1)]) hx hb dX7_take_60 hl (k := 0) rfl rfl (by decide) rfl (fun ls hl => ?_)
          refine lv_goto (tgt := 34) hx hb dX7_take_63 (by decide) ?_
          exact ih (x2_34 + 1) Mb10 _ _ hfu hR hP hD hS ls (lv_sub hl [0, 1, 2] rfl)
    refine LOOP34 (fun M_34 => (ob1 (f7_dishesInPlan M_34) (fun r11 => (some (r11, M_34))))) (fun M_34 H4 locs hR hP hD hS ls hl => ?_) 84 (0 : Int32) Mb5 _ _ (by decide) hR hP hD hS ls (lv_sub hl [0, 1, 2] rfl)
    try dsimp only at hR
    refine lv_aload_n hx hb dX7_take_66 rfl (lv_at hl 0 rfl) ?_
    obtain ⟨r11, hc12, hR⟩ := ob1_e hR
    refine va_calli (va_runV (As := []) (rest := []) ⟨hx, hb, hml, hown, hts⟩ (met_X7_dishesInPlan l dC dI cI cZ cS aM M_34 hs H4.size r11 hc12) (cwV 0 hts gX7_take_X7_dishesInPlan rfl rfl rfl (by decide +kernel) ⟨Nat.le_of_ble_eq_true rfl, Nat.le_of_ble_eq_true rfl⟩) (pV (wc := wMo cI aM M_34 hs) (ci := 7) (q0 := 0) hK hP hD hN [0, 1, 2, 3, 4, 5, 6, 7, 8] rfl (by decide) rfl rfl) rfl rfl hl.1 rfl (lv_room (Nat.le_of_ble_eq_true rfl)) dX7_take_67 ⟨Nat.zero_le _, Nat.zero_le _⟩) hS (fun q _ h => a0_in hS hA q h) (a0_in hS hA) (fun r11 u t H5 locs ht hvm hw hB hz1 hk1 hS => ?_)
    cases hw
    have hP := rdk hP hk1
    exact W.iret (v := r11) hx hb hr (fun t ht hW => ⟨⟨r11, M_34, rfl, Option.some.inj hR, P_at ht hP⟩, hS.F ht⟩) hS.2.2 dX7_take_70
abbrev rm_X7_trade : Room := { frames := 0, cells := 0, slots := 0, locals := 0 }
abbrev q_X7_trade (dC : Nat → ClassId) (dI : Nat → Nat → Nat) (cI cZ cS : ClassId) (aM : Nat → Nat) (hs : Int64) (res : Pic) (A : Nat → Prop) : Array Value → State → Outcome → State → Prop := va_Qv (fun (u : Pic) => u = res) (fun u t => va_P (dC, dI) vwCl (wMo cI aM u hs) t.heap) A
set_option maxHeartbeats 4000000 in
set_option maxRecDepth 100000 in
theorem met_X7_trade (l : Launch) (dC : Nat → ClassId) (dI : Nat → Nat → Nat) (cI cZ cS : ClassId) (aM : Nat → Nat) (M : Pic) (hs : Int64) (sz : Nat) (p1 : Int32) (res : Pic) (hR : f7_trade M p1 = some res) : Met l yX7_trade wsX7_trade rm_X7_trade (va_Pc [.ref (aM 0), .int p1] (pW (dC, dI) (tyS cI cZ cS) (wMo cI aM M hs) sz)) (q_X7_trade dC dI cI cZ cS aM hs res (va_A (wMo cI aM M hs) sz)) 0 0 (va_A (wMo cI aM M hs) sz) := by
  refine Met.ofW (cc := cX7_trade) (maxL := 4) (ret := none) (by decide) rfl ?_
  intro p e s m args below meth c s₁ B hml hv
  obtain ⟨rfl, hsz, hP, hK, hD0, hN⟩ := hv
  have hx := B.exec
  have hb := B.bytes
  have hr := B.returns
  have hts := atoms_spec (ws := wsX7_trade) B.pre
  have hown : s.vm.findClass RX7 = some m.cls := findClass_of_methodNamed B.named
  have hlocks := B.notSynchronized
  subst hsz
  have hD := hD0.self (sz := s.heap.size)
  generalize hAe : va_A (wMo cI aM M hs) s.heap.size = A at hD ⊢
  have hA : ∀ q : Nat, s.heap.size ≤ q → A q := fun q h => by rw [← hAe]; exact Or.inr h
  have hS : va_S A s.heap s.heap [] := va_S.rf
  have hP : va_P (dC, dI) vwCl (wMo cI aM M hs) s.heap := hP
  rw [f7_trade] at hR
  have hin7 : ∀ w ∈ wsX70, w ∈ wsX7_trade := by decide +kernel
  have hl := lv_entry ([.ref (aM 0), .int p1]) (n := 4) (Nat.le_of_ble_eq_true rfl)
  rw [lg_entry_eq]
  generalize (lg_sl ([.ref (aM 0), .int p1]) ++ List.replicate (4 - (lg_sl ([.ref (aM 0), .int p1])).length) Slot.unset).toArray = ls at hl ⊢
  have hl : lv_has ls 4 [(0, .ref (aM 0)), (1, .int p1)] := hl
  refine lv_iconst (v := (0 : Int32)) hx hb dX7_trade_0 (by decide) ?_
  refine lv_istore_n (lv' := [(2, .int (0 : Int32)), (0, .ref (aM 0)), (1, .int p1)]) hx hb dX7_trade_1 rfl hl (by decide) rfl (fun ls hl => ?_)
  have LOOP2 : ∀ (k : Pic → (Option (Pic))), (∀ (M_2 : Pic) (H1 : Heap) (locs : List Loc), k M_2 = some res → va_P (dC, dI) vwCl (wMo cI aM M_2 hs) H1 → va_D A (wMo cI aM M_2 hs) → va_S A s.heap H1 locs → ∀ (ls : Array Slot), lv_has ls 4 [] → W p l e (headSpec wsX7_trade rm_X7_trade).room s m ([.ref (aM 0), .int p1] : List Value).toArray below meth c H1 locs 0 0 (MQ below (q_X7_trade dC dI cI cZ cS aM hs res A) ([.ref (aM 0), .int p1] : List Value).toArray s 0 0 A) (F0 m 56 ls [])) → ∀ (nf : Nat) (x2_2 : Int32) (M_2 : Pic) (H1 : Heap) (locs : List Loc), ((84 : Int32)).toInt - (x2_2).toInt ≤ (nf : Int) → f7_trade_L2 p1 nf x2_2 M_2 k = some res → va_P (dC, dI) vwCl (wMo cI aM M_2 hs) H1 → va_D A (wMo cI aM M_2 hs) → va_S A s.heap H1 locs → ∀ (ls : Array Slot), lv_has ls 4 [(2, .int x2_2), (0, .ref (aM 0)), (1, .int p1)] → W p l e (headSpec wsX7_trade rm_X7_trade).room s m ([.ref (aM 0), .int p1] : List Value).toArray below meth c H1 locs 0 0 (MQ below (q_X7_trade dC dI cI cZ cS aM hs res A) ([.ref (aM 0), .int p1] : List Value).toArray s 0 0 A) (F0 m 2 ls []) := by
    intro k hk nf
    induction nf with
    | zero =>
      intro x2_2 M_2 H1 locs hfu hR hP hD hS ls hl
      rw [f7_trade_L2] at hR
      refine lv_iload_n hx hb dX7_trade_2 rfl (lv_at hl 0 rfl) ?_
      refine lv_bipush (v := (84 : Int32)) hx hb dX7_trade_3 (by decide) ?_
      refine lv_icmp_ge (tgt := 56) hx hb dX7_trade_5 (by decide) (fun c_1 => ?_) (fun c_1 => ?_)
      · skip
        exact hk M_2 _ _  hR hP hD hS ls (lv_sub hl [] rfl)
      · exact (fuel0 hfu c_1).elim
    | succ nf ih =>
      intro x2_2 M_2 H1 locs hfu hR hP hD hS ls hl
      rw [f7_trade_L2] at hR
      refine lv_iload_n hx hb dX7_trade_2 rfl (lv_at hl 0 rfl) ?_
      refine lv_bipush (v := (84 : Int32)) hx hb dX7_trade_3 (by decide) ?_
      refine lv_icmp_ge (tgt := 56) hx hb dX7_trade_5 (by decide) (fun c_2 => ?_) (fun c_2 => ?_)
      · rw [if_pos c_2] at hR
        exact hk M_2 _ _  hR hP hD hS ls (lv_sub hl [] rfl)
      · rw [if_neg c_2] at hR
        have hfu := fuelS hfu c_2
        refine lv_aload_n hx hb dX7_trade_8 rfl (lv_at hl 1 rfl) ?_
        refine va_get (D := (dC, dI)) (ci := 7) (v := .ref (aM 1)) (C := RX7) (T := TX7) (N := 15) hx hb hts hin7 hown hK hP 0 rfl rfl 0 (by decide) (hw_ hts 1 rfl) (fun _ h9 => h9) rfl dX7_trade_9 ?_
        refine lv_bipush (v := (89 : Int32)) hx hb dX7_trade_12 (by decide) ?_
        refine lv_iload_n hx hb dX7_trade_14 rfl (lv_at hl 0 rfl) ?_
        refine lv_iadd hx hb dX7_trade_15 ?_
        obtain ⟨hix3, hR⟩ := ck_some hR
        refine va_iald (f := (M_2 0)) hx hb hK hP 1 0 rfl rfl hix3 dX7_trade_16 ?_
        refine lv_topi (fun v4 hv4 => ?_)
        have hR := bd_n hv4 hR
        refine lv_istore_n (lv' := [(3, .int v4), (2, .int x2_2), (0, .ref (aM 0)), (1, .int p1)]) hx hb dX7_trade_17 rfl hl (by decide) rfl (fun ls hl => ?_)
        refine lv_aload_n hx hb dX7_trade_18 rfl (lv_at hl 2 rfl) ?_
        refine va_get (D := (dC, dI)) (ci := 7) (v := .ref (aM 1)) (C := RX7) (T := TX7) (N := 15) hx hb hts hin7 hown hK hP 0 rfl rfl 0 (by decide) (hw_ hts 1 rfl) (fun _ h9 => h9) rfl dX7_trade_19 ?_
        refine lv_bipush (v := (89 : Int32)) hx hb dX7_trade_22 (by decide) ?_
        refine lv_iload_n hx hb dX7_trade_24 rfl (lv_at hl 1 rfl) ?_
        refine lv_iadd hx hb dX7_trade_25 ?_
        refine lv_aload_n hx hb dX7_trade_26 rfl (lv_at hl 2 rfl) ?_
        refine va_get (D := (dC, dI)) (ci := 7) (v := .ref (aM 3)) (C := RX7) (T := TX7) (N := 15) hx hb hts hin7 hown hK hP 0 rfl rfl 3 (by decide) (hw_ hts 2 rfl) (fun _ h9 => h9) rfl dX7_trade_27 ?_
        refine lv_bipush (v := (84 : Int32)) hx hb dX7_trade_30 (by decide) ?_
        refine lv_iload_n hx hb dX7_trade_32 rfl (lv_at hl 3 rfl) ?_
        refine lv_imul hx hb dX7_trade_33 ?_
        refine lv_iload_n hx hb dX7_trade_34 rfl (lv_at hl 1 rfl) ?_
        refine lv_iadd hx hb dX7_trade_35 ?_
        obtain ⟨hix5, hR⟩ := ck_some hR
        refine va_iald (f := (M_2 3)) hx hb hK hP 3 0 rfl rfl hix5 dX7_trade_36 ?_
        obtain ⟨hix6, hR⟩ := ck_some hR
        refine va_iast (f := (M_2 0)) hx hb hK hP hD hS 1 0 rfl rfl hix6 dX7_trade_37 (fun H2 locs hP hD hS => ?_)
        have hP : va_P (dC, dI) vwCl (wMo cI aM (pset M_2 0 (upd (M_2 0) (ix ((89 : Int32) + x2_2)) ((M_2 3) (ix (((84 : Int32) * p1) + x2_2))))) hs) H2 := hP
        have hD : va_D A (wMo cI aM (pset M_2 0 (upd (M_2 0) (ix ((89 : Int32) + x2_2)) ((M_2 3) (ix (((84 : Int32) * p1) + x2_2))))) hs) := hD
        obtain ⟨Mb7, hMb7⟩ : ∃ z : Pic, z = (pset M_2 0 (upd (M_2 0) (ix ((89 : Int32) + x2_2)) ((M_2 3) (ix (((84 : Int32) * p1) + x2_2))))) := ⟨_, rfl⟩
        rw [← hMb7] at hP hD
        have hR := bd_n hMb7 hR
        refine lv_aload_n hx hb dX7_trade_38 rfl (lv_at hl 2 rfl) ?_
        refine va_get (D := (dC, dI)) (ci := 7) (v := .ref (aM 3)) (C := RX7) (T := TX7) (N := 15) hx hb hts hin7 hown hK hP 0 rfl rfl 3 (by decide) (hw_ hts 2 rfl) (fun _ h9 => h9) rfl dX7_trade_39 ?_
        refine lv_bipush (v := (84 : Int32)) hx hb dX7_trade_42 (by decide) ?_
        refine lv_iload_n hx hb dX7_trade_44 rfl (lv_at hl 3 rfl) ?_
        refine lv_imul hx hb dX7_trade_45 ?_
        refine lv_iload_n hx hb dX7_trade_46 rfl (lv_at hl 1 rfl) ?_
        refine lv_iadd hx hb dX7_trade_47 ?_
        refine lv_iload_n hx hb dX7_trade_48 rfl (lv_at hl 0 rfl) ?_
        obtain ⟨hix8, hR⟩ := ck_some hR
        refine va_iast (f := (Mb7 3)) hx hb hK hP hD hS 3 0 rfl rfl hix8 dX7_trade_49 (fun H3 locs hP hD hS => ?_)
        have hP : va_P (dC, dI) vwCl (wMo cI aM (pset Mb7 3 (upd (Mb7 3) (ix (((84 : Int32) * p1) + x2_2)) v4)) hs) H3 := hP
        have hD : va_D A (wMo cI aM (pset Mb7 3 (upd (Mb7 3) (ix (((84 : Int32) * p1) + x2_2)) v4)) hs) := hD
        obtain ⟨Mb9, hMb9⟩ : ∃ z : Pic, z = (pset Mb7 3 (upd (Mb7 3) (ix (((84 : Int32) * p1) + x2_2)) v4)) := ⟨_, rfl⟩
        rw [← hMb9] at hP hD
        have hR := bd_n hMb9 hR
        refine lv_iinc (v := (x2_2 + 1)) (lv' := [(2, .int (x2_2 + 1)), (3, .int v4), (0, .ref (aM 0)), (1, .int p1)]) hx hb dX7_trade_50 hl (k := 1) rfl rfl (by decide) rfl (fun ls hl => ?_)
        refine lv_goto (tgt := 2) hx hb dX7_trade_53 (by decide) ?_
        exact ih (x2_2 + 1) Mb9 _ _ hfu hR hP hD hS ls (lv_sub hl [0, 2, 3] rfl)
  refine LOOP2 (fun M_2 => (some M_2)) (fun M_2 H1 locs hR hP hD hS ls hl => ?_) 84 (0 : Int32) M _ _ (by decide) hR hP hD hS ls (lv_sub hl [0, 1, 2] rfl)
  try dsimp only at hR
  exact W.vret hx hb hr (fun t ht hW => ⟨⟨M_2, rfl, Option.some.inj hR, P_at ht hP⟩, hS.F ht⟩) hS.2.2 dX7_trade_56
abbrev rm_X7_hasOwnParts : Room := { frames := 2, cells := 0, slots := 0, locals := 43 }
abbrev q_X7_hasOwnParts (dC : Nat → ClassId) (dI : Nat → Nat → Nat) (cI cZ cS : ClassId) (aM : Nat → Nat)  (res : Int32) (A : Nat → Prop) : Array Value → State → Outcome → State → Prop := va_Qi (fun (r : Int32) (u : Unit) => r = res ∧ narrow .boolean (.int r) = .int r) (fun _ _ => True) A
set_option maxHeartbeats 4000000 in
set_option maxRecDepth 100000 in
theorem met_X7_hasOwnParts (l : Launch) (dC : Nat → ClassId) (dI : Nat → Nat → Nat) (cI cZ cS : ClassId) (aM : Nat → Nat) (M : Pic) (hs : Int64) (sz : Nat) (p1 : Int32) (res : Int32) (hR : f7_hasOwnParts M p1 = some res) : Met l yX7_hasOwnParts wsX7_hasOwnParts rm_X7_hasOwnParts (va_Pc [.ref (aM 0), .int p1] (pW (dC, dI) (tyS cI cZ cS) (wMo cI aM M hs) sz)) (q_X7_hasOwnParts dC dI cI cZ cS aM res (a0 sz)) 0 0 (a0 sz) := by
  refine Met.ofW (cc := cX7_hasOwnParts) (maxL := 5) (ret := (some .boolean)) (by decide) rfl ?_
  intro p e s m args below meth c s₁ B hml hv
  obtain ⟨rfl, hsz, hP, hK, hD0, hN⟩ := hv
  have hx := B.exec
  have hb := B.bytes
  have hr := B.returns
  have hts := atoms_spec (ws := wsX7_hasOwnParts) B.pre
  have hown : s.vm.findClass RX7 = some m.cls := findClass_of_methodNamed B.named
  have hlocks := B.notSynchronized
  subst hsz
  have hD := hD0
  have hA : ∀ q : Nat, s.heap.size ≤ q → a0 s.heap.size q := fun q h => Or.inr h
  have hS : va_S (a0 s.heap.size) s.heap s.heap [] := va_S.rf
  have hP : va_P (dC, dI) vwCl (wMo cI aM M hs) s.heap := hP
  rw [f7_hasOwnParts] at hR
  have hin7 : ∀ w ∈ wsX70, w ∈ wsX7_hasOwnParts := by decide +kernel
  have hl := lv_entry ([.ref (aM 0), .int p1]) (n := 5) (Nat.le_of_ble_eq_true rfl)
  rw [lg_entry_eq]
  generalize (lg_sl ([.ref (aM 0), .int p1]) ++ List.replicate (5 - (lg_sl ([.ref (aM 0), .int p1])).length) Slot.unset).toArray = ls at hl ⊢
  have hl : lv_has ls 5 [(0, .ref (aM 0)), (1, .int p1)] := hl
  refine lv_iconst (v := (1 : Int32)) hx hb dX7_hasOwnParts_0 (by decide) ?_
  refine lv_istore_n (lv' := [(2, .int (1 : Int32)), (0, .ref (aM 0)), (1, .int p1)]) hx hb dX7_hasOwnParts_1 rfl hl (by decide) rfl (fun ls hl => ?_)
  refine lv_iconst (v := (0 : Int32)) hx hb dX7_hasOwnParts_2 (by decide) ?_
  refine lv_istore_n (lv' := [(3, .int (0 : Int32)), (2, .int (1 : Int32)), (0, .ref (aM 0)), (1, .int p1)]) hx hb dX7_hasOwnParts_3 rfl hl (by decide) rfl (fun ls hl => ?_)
  have LOOP4 : ∀ (k : Int32 → (Option (Int32))), (∀ (x2_4 : Int32) (H1 : Heap) (locs : List Loc), narrow .boolean (.int x2_4) = .int x2_4 → k x2_4 = some res → va_P (dC, dI) vwCl (wMo cI aM M hs) H1 → va_D (fun _ => True) (wMo cI aM M hs) → va_S (a0 s.heap.size) s.heap H1 locs → ∀ (ls : Array Slot), lv_has ls 5 [(2, .int x2_4)] → W p l e (headSpec wsX7_hasOwnParts rm_X7_hasOwnParts).room s m ([.ref (aM 0), .int p1] : List Value).toArray below meth c H1 locs 0 0 (MQ below (q_X7_hasOwnParts dC dI cI cZ cS aM res (a0 s.heap.size)) ([.ref (aM 0), .int p1] : List Value).toArray s 0 0 (a0 s.heap.size)) (F0 m 67 ls [])) → ∀ (nf : Nat) (x2_4 : Int32) (x3_4 : Int32) (H1 : Heap) (locs : List Loc), ((84 : Int32)).toInt - (x3_4).toInt ≤ (nf : Int) → narrow .boolean (.int x2_4) = .int x2_4 → f7_hasOwnParts_L4 M p1 nf x2_4 x3_4 k = some res → va_P (dC, dI) vwCl (wMo cI aM M hs) H1 → va_D (fun _ => True) (wMo cI aM M hs) → va_S (a0 s.heap.size) s.heap H1 locs → ∀ (ls : Array Slot), lv_has ls 5 [(2, .int x2_4), (3, .int x3_4), (0, .ref (aM 0)), (1, .int p1)] → W p l e (headSpec wsX7_hasOwnParts rm_X7_hasOwnParts).room s m ([.ref (aM 0), .int p1] : List Value).toArray below meth c H1 locs 0 0 (MQ below (q_X7_hasOwnParts dC dI cI cZ cS aM res (a0 s.heap.size)) ([.ref (aM 0), .int p1] : List Value).toArray s 0 0 (a0 s.heap.size)) (F0 m 4 ls []) := by
    intro k hk nf
    induction nf with
    | zero =>
      intro x2_4 x3_4 H1 locs hfu hnb2 hR hP hD hS ls hl
      rw [f7_hasOwnParts_L4] at hR
      refine lv_iload_n hx hb dX7_hasOwnParts_4 rfl (lv_at hl 1 rfl) ?_
      refine lv_bipush (v := (84 : Int32)) hx hb dX7_hasOwnParts_5 (by decide) ?_
      refine lv_icmp_ge (tgt := 67) hx hb dX7_hasOwnParts_7 (by decide) (fun c_1 => ?_) (fun c_1 => ?_)
      · skip
        exact hk x2_4 _ _ hnb2 hR hP hD hS ls (lv_sub hl [0] rfl)
      · exact (fuel0 hfu c_1).elim
    | succ nf ih =>
      intro x2_4 x3_4 H1 locs hfu hnb2 hR hP hD hS ls hl
      rw [f7_hasOwnParts_L4] at hR
      refine lv_iload_n hx hb dX7_hasOwnParts_4 rfl (lv_at hl 1 rfl) ?_
      refine lv_bipush (v := (84 : Int32)) hx hb dX7_hasOwnParts_5 (by decide) ?_
      refine lv_icmp_ge (tgt := 67) hx hb dX7_hasOwnParts_7 (by decide) (fun c_2 => ?_) (fun c_2 => ?_)
      · rw [if_pos c_2] at hR
        exact hk x2_4 _ _ hnb2 hR hP hD hS ls (lv_sub hl [0] rfl)
      · rw [if_neg c_2] at hR
        have hfu := fuelS hfu c_2
        refine lv_aload_n hx hb dX7_hasOwnParts_10 rfl (lv_at hl 2 rfl) ?_
        refine va_get (D := (dC, dI)) (ci := 7) (v := .ref (aM 3)) (C := RX7) (T := TX7) (N := 15) hx hb hts hin7 hown hK hP 0 rfl rfl 3 (by decide) (hw_ hts 1 rfl) (fun _ h9 => h9) rfl dX7_hasOwnParts_11 ?_
        refine lv_bipush (v := (84 : Int32)) hx hb dX7_hasOwnParts_14 (by decide) ?_
        refine lv_iload_n hx hb dX7_hasOwnParts_16 rfl (lv_at hl 3 rfl) ?_
        refine lv_imul hx hb dX7_hasOwnParts_17 ?_
        refine lv_iload_n hx hb dX7_hasOwnParts_18 rfl (lv_at hl 1 rfl) ?_
        refine lv_iadd hx hb dX7_hasOwnParts_19 ?_
        obtain ⟨hix3, hR⟩ := ck_some hR
        refine va_iald (f := (M 3)) hx hb hK hP 3 0 rfl rfl hix3 dX7_hasOwnParts_20 ?_
        refine lv_topi (fun v4 hv4 => ?_)
        have hR := bd_n hv4 hR
        refine lv_istore (lv' := [(4, .int v4), (2, .int x2_4), (3, .int x3_4), (0, .ref (aM 0)), (1, .int p1)]) hx hb dX7_hasOwnParts_21 hl (by decide) rfl (fun ls hl => ?_)
        refine lv_iload_n hx hb dX7_hasOwnParts_23 rfl (lv_at hl 1 rfl) ?_
        refine lv_if_eq (tgt := 59) hx hb dX7_hasOwnParts_24 (by decide) (fun c_5 => ?_) (fun c_5 => ?_)
        · rw [if_pos c_5] at hR
          refine lv_iconst (v := (0 : Int32)) hx hb dX7_hasOwnParts_59 (by decide) ?_
          refine lv_istore_n (lv' := [(2, .int (0 : Int32)), (4, .int v4), (3, .int x3_4), (0, .ref (aM 0)), (1, .int p1)]) hx hb dX7_hasOwnParts_60 rfl hl (by decide) rfl (fun ls hl => ?_)
          refine lv_iinc (v := (x3_4 + 1)) (lv' := [(3, .int (x3_4 + 1)), (2, .int (0 : Int32)), (4, .int v4), (0, .ref (aM 0)), (1, .int p1)]) hx hb dX7_hasOwnParts_61 hl (k := 2) rfl rfl (by decide) rfl (fun ls hl => ?_)
          refine lv_goto (tgt := 4) hx hb dX7_hasOwnParts_64 (by decide) ?_
          exact ih (0 : Int32) (x3_4 + 1) _ _ hfu rfl hR hP hD hS ls (lv_sub hl [1, 0, 3, 4] rfl)
        · rw [if_neg c_5] at hR
          refine lv_iload hx hb dX7_hasOwnParts_27 (lv_at hl 0 rfl) ?_
          refine lv_iconst (v := (-1 : Int32)) hx hb dX7_hasOwnParts_29 (by decide) ?_
          refine lv_icmp_eq (tgt := 55) hx hb dX7_hasOwnParts_30 (by decide) (fun c_6 => ?_) (fun c_6 => ?_)
          · rw [if_pos c_6] at hR
            refine lv_iconst (v := (1 : Int32)) hx hb dX7_hasOwnParts_55 (by decide) ?_
            refine lv_goto (tgt := 60) hx hb dX7_hasOwnParts_56 (by decide) ?_
            refine lv_istore_n (lv' := [(2, .int (1 : Int32)), (4, .int v4), (3, .int x3_4), (0, .ref (aM 0)), (1, .int p1)]) hx hb dX7_hasOwnParts_60 rfl hl (by decide) rfl (fun ls hl => ?_)
            refine lv_iinc (v := (x3_4 + 1)) (lv' := [(3, .int (x3_4 + 1)), (2, .int (1 : Int32)), (4, .int v4), (0, .ref (aM 0)), (1, .int p1)]) hx hb dX7_hasOwnParts_61 hl (k := 2) rfl rfl (by decide) rfl (fun ls hl => ?_)
            refine lv_goto (tgt := 4) hx hb dX7_hasOwnParts_64 (by decide) ?_
            exact ih (1 : Int32) (x3_4 + 1) _ _ hfu rfl hR hP hD hS ls (lv_sub hl [1, 0, 3, 4] rfl)
          · rw [if_neg c_6] at hR
            refine lv_aload_n hx hb dX7_hasOwnParts_33 rfl (lv_at hl 3 rfl) ?_
            refine lv_iload hx hb dX7_hasOwnParts_34 (lv_at hl 0 rfl) ?_
            refine va_calli (va_runV (As := [.int v4]) (rest := []) ⟨hx, hb, hml, hown, hts⟩ (met_X7_isDish l dC dI cI cZ cS aM M hs H1.size v4) (cwV 1 hts gX7_hasOwnParts_X7_isDish rfl rfl rfl (by decide +kernel) ⟨Nat.le_of_ble_eq_true rfl, Nat.le_of_ble_eq_true rfl⟩) (pV (wc := wMo cI aM M hs) (ci := 7) (q0 := 0) hK hP hD hN [0, 1, 2, 3, 4, 5, 6, 7, 8] rfl (by decide) rfl rfl) rfl rfl hl.1 rfl (lv_room (Nat.le_of_ble_eq_true rfl)) dX7_hasOwnParts_36 ⟨Nat.zero_le _, Nat.zero_le _⟩) hS (fun q _ h => a0_in hS hA q h) (a0_in hS hA) (fun r7 u t H2 locs ht hvm hw hB hz1 hk1 hS => ?_)
            obtain ⟨hw, nb8⟩ := hw
            subst hw
            have hP := rdk hP hk1
            refine lv_if_eq (tgt := 59) hx hb dX7_hasOwnParts_39 (by decide) (fun c_9 => ?_) (fun c_9 => ?_)
            · rw [if_pos c_9] at hR
              refine lv_iconst (v := (0 : Int32)) hx hb dX7_hasOwnParts_59 (by decide) ?_
              refine lv_istore_n (lv' := [(2, .int (0 : Int32)), (4, .int v4), (3, .int x3_4), (0, .ref (aM 0)), (1, .int p1)]) hx hb dX7_hasOwnParts_60 rfl hl (by decide) rfl (fun ls hl => ?_)
              refine lv_iinc (v := (x3_4 + 1)) (lv' := [(3, .int (x3_4 + 1)), (2, .int (0 : Int32)), (4, .int v4), (0, .ref (aM 0)), (1, .int p1)]) hx hb dX7_hasOwnParts_61 hl (k := 2) rfl rfl (by decide) rfl (fun ls hl => ?_)
              refine lv_goto (tgt := 4) hx hb dX7_hasOwnParts_64 (by decide) ?_
              exact ih (0 : Int32) (x3_4 + 1) _ _ hfu rfl hR hP hD hS ls (lv_sub hl [1, 0, 3, 4] rfl)
            · rw [if_neg c_9] at hR
              refine lv_aload_n hx hb dX7_hasOwnParts_42 rfl (lv_at hl 3 rfl) ?_
              refine lv_iload hx hb dX7_hasOwnParts_43 (lv_at hl 0 rfl) ?_
              refine lv_iconst (v := (0 : Int32)) hx hb dX7_hasOwnParts_45 (by decide) ?_
              obtain ⟨r10, hc11, hR⟩ := ob1_e hR
              refine va_calli (va_runV (As := [.int v4, .int (0 : Int32)]) (rest := []) ⟨hx, hb, hml, hown, hts⟩ (met_X7_of l dC dI cI cZ cS aM M hs H2.size v4 (0 : Int32) r10 hc11) (cwV 2 hts gX7_hasOwnParts_X7_of rfl rfl rfl (by decide +kernel) ⟨Nat.le_of_ble_eq_true rfl, Nat.le_of_ble_eq_true rfl⟩) (pV (wc := wMo cI aM M hs) (ci := 7) (q0 := 0) hK hP hD hN [0, 1, 2, 3, 4, 5, 6, 7, 8] rfl (by decide) rfl rfl) rfl rfl hl.1 rfl (lv_room (Nat.le_of_ble_eq_true rfl)) dX7_hasOwnParts_46 ⟨Nat.zero_le _, Nat.zero_le _⟩) hS (fun q _ h => a0_in hS hA q h) (a0_in hS hA) (fun r10 u t H3 locs ht hvm hw hB hz1 hk1 hS => ?_)
              cases hw
              have hP := rdk hP hk1
              refine lv_iload_n hx hb dX7_hasOwnParts_49 rfl (lv_at hl 2 rfl) ?_
              refine lv_iconst (v := (3 : Int32)) hx hb dX7_hasOwnParts_50 (by decide) ?_
              refine lv_irem hx hb dX7_hasOwnParts_51 (by decide) ?_
              refine lv_icmp_ne (tgt := 59) hx hb dX7_hasOwnParts_52 (by decide) (fun c_12 => ?_) (fun c_12 => ?_)
              · rw [if_neg c_12] at hR
                refine lv_iconst (v := (0 : Int32)) hx hb dX7_hasOwnParts_59 (by decide) ?_
                refine lv_istore_n (lv' := [(2, .int (0 : Int32)), (4, .int v4), (3, .int x3_4), (0, .ref (aM 0)), (1, .int p1)]) hx hb dX7_hasOwnParts_60 rfl hl (by decide) rfl (fun ls hl => ?_)
                refine lv_iinc (v := (x3_4 + 1)) (lv' := [(3, .int (x3_4 + 1)), (2, .int (0 : Int32)), (4, .int v4), (0, .ref (aM 0)), (1, .int p1)]) hx hb dX7_hasOwnParts_61 hl (k := 2) rfl rfl (by decide) rfl (fun ls hl => ?_)
                refine lv_goto (tgt := 4) hx hb dX7_hasOwnParts_64 (by decide) ?_
                exact ih (0 : Int32) (x3_4 + 1) _ _ hfu rfl hR hP hD hS ls (lv_sub hl [1, 0, 3, 4] rfl)
              · rw [if_pos c_12] at hR
                refine lv_iconst (v := (1 : Int32)) hx hb dX7_hasOwnParts_55 (by decide) ?_
                refine lv_goto (tgt := 60) hx hb dX7_hasOwnParts_56 (by decide) ?_
                refine lv_istore_n (lv' := [(2, .int (1 : Int32)), (4, .int v4), (3, .int x3_4), (0, .ref (aM 0)), (1, .int p1)]) hx hb dX7_hasOwnParts_60 rfl hl (by decide) rfl (fun ls hl => ?_)
                refine lv_iinc (v := (x3_4 + 1)) (lv' := [(3, .int (x3_4 + 1)), (2, .int (1 : Int32)), (4, .int v4), (0, .ref (aM 0)), (1, .int p1)]) hx hb dX7_hasOwnParts_61 hl (k := 2) rfl rfl (by decide) rfl (fun ls hl => ?_)
                refine lv_goto (tgt := 4) hx hb dX7_hasOwnParts_64 (by decide) ?_
                exact ih (1 : Int32) (x3_4 + 1) _ _ hfu rfl hR hP hD hS ls (lv_sub hl [1, 0, 3, 4] rfl)
  refine LOOP4 (fun x2_4 => (some x2_4)) (fun x2_4 H1 locs hnb2 hR hP hD hS ls hl => ?_) 84 (1 : Int32) (0 : Int32) _ _ (by decide) rfl hR hP hD hS ls (lv_sub hl [1, 0, 2, 3] rfl)
  try dsimp only at hR
  refine lv_iload_n hx hb dX7_hasOwnParts_67 rfl (lv_at hl 0 rfl) ?_
  exact W.zret (v := x2_4) (ty := .boolean) hx hb hr hnb2 (fun t ht hW => ⟨⟨x2_4, (), rfl, ⟨Option.some.inj hR, hnb2⟩, trivial⟩, hS.F ht⟩) hS.2.2 dX7_hasOwnParts_68
abbrev rm_X7_goodThen : Room := { frames := 6, cells := 0, slots := 0, locals := 134 }
abbrev q_X7_goodThen (dC : Nat → ClassId) (dI : Nat → Nat → Nat) (cI cZ cS : ClassId) (aM : Nat → Nat) (hs : Int64) (res : Int32 × Pic) (A : Nat → Prop) : Array Value → State → Outcome → State → Prop := va_Qi (fun (r : Int32) (u : Pic) => (r, u) = res ∧ narrow .boolean (.int r) = .int r) (fun u t => va_P (dC, dI) vwCl (wMo cI aM u hs) t.heap) A
set_option maxHeartbeats 4000000 in
set_option maxRecDepth 100000 in
theorem met_X7_goodThen (l : Launch) (dC : Nat → ClassId) (dI : Nat → Nat → Nat) (cI cZ cS : ClassId) (aM : Nat → Nat) (M : Pic) (hs : Int64) (sz : Nat) (p1 : Int32) (res : Int32 × Pic) (hR : f7_goodThen M p1 = some res) : Met l yX7_goodThen wsX7_goodThen rm_X7_goodThen (va_Pc [.ref (aM 0), .int p1] (pW (dC, dI) (tyS cI cZ cS) (wMo cI aM M hs) sz)) (q_X7_goodThen dC dI cI cZ cS aM hs res (va_A (wMo cI aM M hs) sz)) 0 0 (va_A (wMo cI aM M hs) sz) := by
  refine Met.ofW (cc := cX7_goodThen) (maxL := 3) (ret := (some .boolean)) (by decide) rfl ?_
  intro p e s m args below meth c s₁ B hml hv
  obtain ⟨rfl, hsz, hP, hK, hD0, hN⟩ := hv
  have hx := B.exec
  have hb := B.bytes
  have hr := B.returns
  have hts := atoms_spec (ws := wsX7_goodThen) B.pre
  have hown : s.vm.findClass RX7 = some m.cls := findClass_of_methodNamed B.named
  have hlocks := B.notSynchronized
  subst hsz
  have hD := hD0.self (sz := s.heap.size)
  generalize hAe : va_A (wMo cI aM M hs) s.heap.size = A at hD ⊢
  have hA : ∀ q : Nat, s.heap.size ≤ q → A q := fun q h => by rw [← hAe]; exact Or.inr h
  have hS : va_S A s.heap s.heap [] := va_S.rf
  have hP : va_P (dC, dI) vwCl (wMo cI aM M hs) s.heap := hP
  rw [f7_goodThen] at hR
  have hl := lv_entry ([.ref (aM 0), .int p1]) (n := 3) (Nat.le_of_ble_eq_true rfl)
  rw [lg_entry_eq]
  generalize (lg_sl ([.ref (aM 0), .int p1]) ++ List.replicate (3 - (lg_sl ([.ref (aM 0), .int p1])).length) Slot.unset).toArray = ls at hl ⊢
  have hl : lv_has ls 3 [(0, .ref (aM 0)), (1, .int p1)] := hl
  refine lv_aload_n hx hb dX7_goodThen_0 rfl (lv_at hl 0 rfl) ?_
  refine lv_iload_n hx hb dX7_goodThen_1 rfl (lv_at hl 1 rfl) ?_
  obtain ⟨r1, hc2, hR⟩ := ob1_e hR
  refine va_calli (va_runV (As := [.int p1]) (rest := []) ⟨hx, hb, hml, hown, hts⟩ (met_X7_hasOwnParts l dC dI cI cZ cS aM M hs s.heap.size p1 r1 hc2) (cwV 1 hts gX7_goodThen_X7_hasOwnParts rfl rfl rfl (by decide +kernel) ⟨Nat.le_of_ble_eq_true rfl, Nat.le_of_ble_eq_true rfl⟩) (pV (wc := wMo cI aM M hs) (ci := 7) (q0 := 0) hK hP hD hN [0, 1, 2, 3, 4, 5, 6, 7, 8] rfl (by decide) rfl rfl) rfl rfl hl.1 rfl (lv_room (Nat.le_of_ble_eq_true rfl)) dX7_goodThen_2 ⟨Nat.zero_le _, Nat.zero_le _⟩) hS (fun q _ h => a0_in hS hA q h) (a0_in hS hA) (fun r1 u t H1 locs ht hvm hw hB hz1 hk1 hS => ?_)
  obtain ⟨hw, nb3⟩ := hw
  cases hw
  have hP := rdk hP hk1
  refine lv_if_ne (tgt := 10) hx hb dX7_goodThen_5 (by decide) (fun c_4 => ?_) (fun c_4 => ?_)
  · rw [if_neg c_4] at hR
    refine lv_aload_n hx hb dX7_goodThen_10 rfl (lv_at hl 0 rfl) ?_
    refine lv_iload_n hx hb dX7_goodThen_11 rfl (lv_at hl 1 rfl) ?_
    obtain ⟨u5, hc6, hR⟩ := ob1_e hR
    have hF := va_free (wc := wMo cI aM M hs) hD hS hA [0, 1, 2, 3, 4, 5, 6, 7, 8] rfl
    refine va_callv (va_runV (As := [.int p1]) (rest := []) ⟨hx, hb, hml, hown, hts⟩ (met_X7_trade l dC dI cI cZ cS aM M hs H1.size p1 u5 hc6) (cwV 1 hts gX7_goodThen_X7_trade rfl rfl rfl (by decide +kernel) ⟨Nat.le_of_ble_eq_true rfl, Nat.le_of_ble_eq_true rfl⟩) (pV (wc := wMo cI aM M hs) (ci := 7) (q0 := 0) hK hP hD hN [0, 1, 2, 3, 4, 5, 6, 7, 8] rfl (by decide) rfl rfl) rfl rfl hl.1 rfl (lv_room (Nat.le_of_ble_eq_true rfl)) dX7_goodThen_12 ⟨Nat.zero_le _, Nat.zero_le _⟩) hS (fun q _ h => hF q h) hF (fun  u5 t H2 locs ht hvm hw hB hz1 hk1 hS => ?_)
    try dsimp only at hw hB
    rw [ht] at hB
    cases hw
    have hP := wrk (w2 := wMo cI aM u5 hs) hP hD [0, 1, 2, 3, 4, 5, 6, 7, 8] rfl (by decide) hk1 hB rfl rfl
    have hD := D_addr (w1 := wMo cI aM u5 hs) hD rfl
    refine lv_aload_n hx hb dX7_goodThen_15 rfl (lv_at hl 0 rfl) ?_
    obtain ⟨r7, u8, hc9, hR⟩ := ob2_e hR
    have hF := va_free (wc := wMo cI aM u5 hs) hD hS hA [0, 1, 2, 3, 4, 5, 6, 7, 8] rfl
    refine va_calli (va_runV (As := []) (rest := []) ⟨hx, hb, hml, hown, hts⟩ (met_X7_isGood l dC dI cI cZ cS aM u5 hs H2.size (r7, u8) hc9) (cwV 0 hts gX7_goodThen_X7_isGood rfl rfl rfl (by decide +kernel) ⟨Nat.le_of_ble_eq_true rfl, Nat.le_of_ble_eq_true rfl⟩) (pV (wc := wMo cI aM u5 hs) (ci := 7) (q0 := 0) hK hP hD hN [0, 1, 2, 3, 4, 5, 6, 7, 8] rfl (by decide) rfl rfl) rfl rfl hl.1 rfl (lv_room (Nat.le_of_ble_eq_true rfl)) dX7_goodThen_16 ⟨Nat.zero_le _, Nat.zero_le _⟩) hS (fun q _ h => hF q h) hF (fun r7 u8 t H3 locs ht hvm hw hB hz1 hk1 hS => ?_)
    obtain ⟨hw, nb10⟩ := hw
    try dsimp only at hw hB
    rw [ht] at hB
    cases hw
    have hP := wrk (w2 := wMo cI aM u8 hs) hP hD [0, 1, 2, 3, 4, 5, 6, 7, 8] rfl (by decide) hk1 hB rfl rfl
    have hD := D_addr (w1 := wMo cI aM u8 hs) hD rfl
    refine lv_istore_n (lv' := [(2, .int r7), (0, .ref (aM 0)), (1, .int p1)]) hx hb dX7_goodThen_19 rfl hl (by decide) rfl (fun ls hl => ?_)
    refine lv_aload_n hx hb dX7_goodThen_20 rfl (lv_at hl 1 rfl) ?_
    refine lv_iload_n hx hb dX7_goodThen_21 rfl (lv_at hl 2 rfl) ?_
    obtain ⟨u11, hc12, hR⟩ := ob1_e hR
    have hF := va_free (wc := wMo cI aM u8 hs) hD hS hA [0, 1, 2, 3, 4, 5, 6, 7, 8] rfl
    refine va_callv (va_runV (As := [.int p1]) (rest := []) ⟨hx, hb, hml, hown, hts⟩ (met_X7_trade l dC dI cI cZ cS aM u8 hs H3.size p1 u11 hc12) (cwV 1 hts gX7_goodThen_X7_trade rfl rfl rfl (by decide +kernel) ⟨Nat.le_of_ble_eq_true rfl, Nat.le_of_ble_eq_true rfl⟩) (pV (wc := wMo cI aM u8 hs) (ci := 7) (q0 := 0) hK hP hD hN [0, 1, 2, 3, 4, 5, 6, 7, 8] rfl (by decide) rfl rfl) rfl rfl hl.1 rfl (lv_room (Nat.le_of_ble_eq_true rfl)) dX7_goodThen_22 ⟨Nat.zero_le _, Nat.zero_le _⟩) hS (fun q _ h => hF q h) hF (fun  u11 t H4 locs ht hvm hw hB hz1 hk1 hS => ?_)
    try dsimp only at hw hB
    rw [ht] at hB
    cases hw
    have hP := wrk (w2 := wMo cI aM u11 hs) hP hD [0, 1, 2, 3, 4, 5, 6, 7, 8] rfl (by decide) hk1 hB rfl rfl
    have hD := D_addr (w1 := wMo cI aM u11 hs) hD rfl
    refine lv_iload_n hx hb dX7_goodThen_25 rfl (lv_at hl 0 rfl) ?_
    exact W.zret (v := r7) (ty := .boolean) hx hb hr nb10 (fun t ht hW => ⟨⟨r7, u11, rfl, ⟨Option.some.inj hR, nb10⟩, P_at ht hP⟩, hS.F ht⟩) hS.2.2 dX7_goodThen_26
  · rw [if_pos c_4] at hR
    refine lv_iconst (v := (0 : Int32)) hx hb dX7_goodThen_8 (by decide) ?_
    exact W.zret (v := (0 : Int32)) (ty := .boolean) hx hb hr rfl (fun t ht hW => ⟨⟨(0 : Int32), M, rfl, ⟨Option.some.inj hR, rfl⟩, P_at ht hP⟩, hS.F ht⟩) hS.2.2 dX7_goodThen_9
abbrev rm_X7_restore : Room := { frames := 7, cells := 0, slots := 0, locals := 156 }
abbrev q_X7_restore (dC : Nat → ClassId) (dI : Nat → Nat → Nat) (cI cZ cS : ClassId) (aM : Nat → Nat) (hs : Int64) (res : Int32 × Pic) (A : Nat → Prop) : Array Value → State → Outcome → State → Prop := va_Qi (fun (r : Int32) (u : Pic) => (r, u) = res) (fun u t => va_P (dC, dI) vwCl (wMo cI aM u hs) t.heap) A
set_option maxHeartbeats 4000000 in
set_option maxRecDepth 100000 in
theorem met_X7_restore (l : Launch) (dC : Nat → ClassId) (dI : Nat → Nat → Nat) (cI cZ cS : ClassId) (aM : Nat → Nat) (M : Pic) (hs : Int64) (sz : Nat) (p1 : Int32) (res : Int32 × Pic) (hR : f7_restore M p1 = some res) : Met l yX7_restore wsX7_restore rm_X7_restore (va_Pc [.ref (aM 0), .int p1] (pW (dC, dI) (tyS cI cZ cS) (wMo cI aM M hs) sz)) (q_X7_restore dC dI cI cZ cS aM hs res (va_A (wMo cI aM M hs) sz)) 0 0 (va_A (wMo cI aM M hs) sz) := by
  refine Met.ofW (cc := cX7_restore) (maxL := 3) (ret := (some .int)) (by decide) rfl ?_
  intro p e s m args below meth c s₁ B hml hv
  obtain ⟨rfl, hsz, hP, hK, hD0, hN⟩ := hv
  have hx := B.exec
  have hb := B.bytes
  have hr := B.returns
  have hts := atoms_spec (ws := wsX7_restore) B.pre
  have hown : s.vm.findClass RX7 = some m.cls := findClass_of_methodNamed B.named
  have hlocks := B.notSynchronized
  subst hsz
  have hD := hD0.self (sz := s.heap.size)
  generalize hAe : va_A (wMo cI aM M hs) s.heap.size = A at hD ⊢
  have hA : ∀ q : Nat, s.heap.size ≤ q → A q := fun q h => by rw [← hAe]; exact Or.inr h
  have hS : va_S A s.heap s.heap [] := va_S.rf
  have hP : va_P (dC, dI) vwCl (wMo cI aM M hs) s.heap := hP
  rw [f7_restore] at hR
  have hin7 : ∀ w ∈ wsX70, w ∈ wsX7_restore := by decide +kernel
  have hl := lv_entry ([.ref (aM 0), .int p1]) (n := 3) (Nat.le_of_ble_eq_true rfl)
  rw [lg_entry_eq]
  generalize (lg_sl ([.ref (aM 0), .int p1]) ++ List.replicate (3 - (lg_sl ([.ref (aM 0), .int p1])).length) Slot.unset).toArray = ls at hl ⊢
  have hl : lv_has ls 3 [(0, .ref (aM 0)), (1, .int p1)] := hl
  refine lv_aload_n hx hb dX7_restore_0 rfl (lv_at hl 0 rfl) ?_
  refine lv_iload_n hx hb dX7_restore_1 rfl (lv_at hl 1 rfl) ?_
  refine va_calli (va_runS (As := [.int p1]) (rest := [.ref (aM 0)]) ⟨hx, hb, hml, hown, hts⟩ (met_X7_isSnapshot l dC dI cI cZ cS s.heap.size p1) (va_cwS 1 hts gX7_restore_X7_isSnapshot rfl rfl rfl (by decide +kernel) ⟨Nat.le_of_ble_eq_true rfl, Nat.le_of_ble_eq_true rfl⟩) (pS (wc := []) hK hP hD hN [] rfl (by decide)) rfl rfl hl.1 rfl (lv_room (Nat.le_of_ble_eq_true rfl)) dX7_restore_2 ⟨Nat.zero_le _, Nat.zero_le _⟩) hS (fun q _ h => a0_in hS hA q h) (a0_in hS hA) (fun r1 u t H1 locs ht hvm hw hB hz1 hk1 hS => ?_)
  obtain ⟨hw, nb2⟩ := hw
  subst hw
  have hP := rdk hP hk1
  refine lv_if_eq (tgt := 12) hx hb dX7_restore_5 (by decide) (fun c_3 => ?_) (fun c_3 => ?_)
  · rw [if_pos c_3] at hR
    refine lv_iconst (v := (1 : Int32)) hx hb dX7_restore_12 (by decide) ?_
    refine va_put (D := (dC, dI)) (ci := 7) (v := .int (1 : Int32)) (ty := .int) (C := RX7) (T := TX7) (N := 15) hx hb hts hin7 tyX7 tyX7_ok nmX7 hown hK hP hD hS 0 rfl rfl 7 (by decide) (hw_ hts 1 rfl) (fun _ h9 => h9) rfl (by decide +kernel) rfl rfl (Nat.le_of_ble_eq_true rfl) dX7_restore_13 (fun H2 locs hP hD hS => ?_)
    have hP : va_P (dC, dI) vwCl (wMo cI aM (pset M 7 (fun _ => (1 : Int32))) hs) H2 := hP
    have hD : va_D A (wMo cI aM (pset M 7 (fun _ => (1 : Int32))) hs) := hD
    refine lv_aload_n hx hb dX7_restore_16 rfl (lv_at hl 0 rfl) ?_
    refine va_get (D := (dC, dI)) (ci := 7) (v := .int (1 : Int32)) (C := RX7) (T := TX7) (N := 15) hx hb hts hin7 hown hK hP 0 rfl rfl 7 (by decide) (hw_ hts 1 rfl) (fun _ h9 => h9) rfl dX7_restore_17 ?_
    refine lv_if_ne (tgt := 50) hx hb dX7_restore_20 (by decide) (fun _ => ?_) (fun q => absurd q (by decide))
    refine lv_aload_n hx hb dX7_restore_50 rfl (lv_at hl 0 rfl) ?_
    refine va_get (D := (dC, dI)) (ci := 7) (v := .int (1 : Int32)) (C := RX7) (T := TX7) (N := 15) hx hb hts hin7 hown hK hP 0 rfl rfl 7 (by decide) (hw_ hts 1 rfl) (fun _ h9 => h9) rfl dX7_restore_51 ?_
    refine lv_if_le (tgt := 59) hx hb dX7_restore_54 (by decide) (fun q => absurd q (by decide)) (fun _ => ?_)
    refine lv_iconst (v := (0 : Int32)) hx hb dX7_restore_57 (by decide) ?_
    exact W.iret (v := (0 : Int32)) hx hb hr (fun t ht hW => ⟨⟨(0 : Int32), (pset M 7 (fun _ => (1 : Int32))), rfl, Option.some.inj hR, P_at ht hP⟩, hS.F ht⟩) hS.2.2 dX7_restore_58
  · rw [if_neg c_3] at hR
    refine lv_iconst (v := (0 : Int32)) hx hb dX7_restore_8 (by decide) ?_
    refine lv_goto (tgt := 13) hx hb dX7_restore_9 (by decide) ?_
    refine va_put (D := (dC, dI)) (ci := 7) (v := .int (0 : Int32)) (ty := .int) (C := RX7) (T := TX7) (N := 15) hx hb hts hin7 tyX7 tyX7_ok nmX7 hown hK hP hD hS 0 rfl rfl 7 (by decide) (hw_ hts 1 rfl) (fun _ h9 => h9) rfl (by decide +kernel) rfl rfl (Nat.le_of_ble_eq_true rfl) dX7_restore_13 (fun H2 locs hP hD hS => ?_)
    have hP : va_P (dC, dI) vwCl (wMo cI aM (pset M 7 (fun _ => (0 : Int32))) hs) H2 := hP
    have hD : va_D A (wMo cI aM (pset M 7 (fun _ => (0 : Int32))) hs) := hD
    refine lv_aload_n hx hb dX7_restore_16 rfl (lv_at hl 0 rfl) ?_
    refine va_get (D := (dC, dI)) (ci := 7) (v := .int (0 : Int32)) (C := RX7) (T := TX7) (N := 15) hx hb hts hin7 hown hK hP 0 rfl rfl 7 (by decide) (hw_ hts 1 rfl) (fun _ h9 => h9) rfl dX7_restore_17 ?_
    refine lv_if_ne (tgt := 50) hx hb dX7_restore_20 (by decide) (fun q => absurd (by decide) q) (fun _ => ?_)
    refine lv_aload_n hx hb dX7_restore_23 rfl (lv_at hl 0 rfl) ?_
    refine lv_aload_n hx hb dX7_restore_24 rfl (lv_at hl 0 rfl) ?_
    refine va_get (D := (dC, dI)) (ci := 7) (v := .ref (aM 4)) (C := RX7) (T := TX7) (N := 15) hx hb hts hin7 hown hK hP 0 rfl rfl 4 (by decide) (hw_ hts 2 rfl) (fun _ h9 => h9) rfl dX7_restore_25 ?_
    refine lv_iload_n hx hb dX7_restore_28 rfl (lv_at hl 1 rfl) ?_
    obtain ⟨hix4, hR⟩ := ck_some hR
    refine va_iald (f := (M 4)) hx hb hK hP 4 0 rfl rfl hix4 dX7_restore_29 ?_
    refine lv_iconst (v := (1 : Int32)) hx hb dX7_restore_30 (by decide) ?_
    refine lv_icmp_ne (tgt := 46) hx hb dX7_restore_31 (by decide) (fun c_5 => ?_) (fun c_5 => ?_)
    · rw [if_neg c_5] at hR
      refine lv_iconst (v := (2 : Int32)) hx hb dX7_restore_46 (by decide) ?_
      refine va_put (D := (dC, dI)) (ci := 7) (v := .int (2 : Int32)) (ty := .int) (C := RX7) (T := TX7) (N := 15) hx hb hts hin7 tyX7 tyX7_ok nmX7 hown hK hP hD hS 0 rfl rfl 7 (by decide) (hw_ hts 1 rfl) (fun _ h9 => h9) rfl (by decide +kernel) rfl rfl (Nat.le_of_ble_eq_true rfl) dX7_restore_47 (fun H3 locs hP hD hS => ?_)
      have hP : va_P (dC, dI) vwCl (wMo cI aM (pset M 7 (fun _ => (2 : Int32))) hs) H3 := hP
      have hD : va_D A (wMo cI aM (pset M 7 (fun _ => (2 : Int32))) hs) := hD
      refine lv_aload_n hx hb dX7_restore_50 rfl (lv_at hl 0 rfl) ?_
      refine va_get (D := (dC, dI)) (ci := 7) (v := .int (2 : Int32)) (C := RX7) (T := TX7) (N := 15) hx hb hts hin7 hown hK hP 0 rfl rfl 7 (by decide) (hw_ hts 1 rfl) (fun _ h9 => h9) rfl dX7_restore_51 ?_
      refine lv_if_le (tgt := 59) hx hb dX7_restore_54 (by decide) (fun q => absurd q (by decide)) (fun _ => ?_)
      refine lv_iconst (v := (0 : Int32)) hx hb dX7_restore_57 (by decide) ?_
      exact W.iret (v := (0 : Int32)) hx hb hr (fun t ht hW => ⟨⟨(0 : Int32), (pset M 7 (fun _ => (2 : Int32))), rfl, Option.some.inj hR, P_at ht hP⟩, hS.F ht⟩) hS.2.2 dX7_restore_58
    · rw [if_pos c_5] at hR
      refine lv_aload_n hx hb dX7_restore_34 rfl (lv_at hl 0 rfl) ?_
      refine lv_iload_n hx hb dX7_restore_35 rfl (lv_at hl 1 rfl) ?_
      obtain ⟨r6, u7, hc8, hR⟩ := ob2_e hR
      have hF := va_free (wc := wMo cI aM (pset M 7 (fun _ => (0 : Int32))) hs) hD hS hA [0, 1, 2, 3, 4, 5, 6, 7, 8] rfl
      refine va_calli (va_runV (As := [.int p1]) (rest := [.ref (aM 0)]) ⟨hx, hb, hml, hown, hts⟩ (met_X7_goodThen l dC dI cI cZ cS aM (pset M 7 (fun _ => (0 : Int32))) hs H2.size p1 (r6, u7) hc8) (cwV 1 hts gX7_restore_X7_goodThen rfl rfl rfl (by decide +kernel) ⟨Nat.le_of_ble_eq_true rfl, Nat.le_of_ble_eq_true rfl⟩) (pV (wc := wMo cI aM (pset M 7 (fun _ => (0 : Int32))) hs) (ci := 7) (q0 := 0) hK hP hD hN [0, 1, 2, 3, 4, 5, 6, 7, 8] rfl (by decide) rfl rfl) rfl rfl hl.1 rfl (lv_room (Nat.le_of_ble_eq_true rfl)) dX7_restore_36 ⟨Nat.zero_le _, Nat.zero_le _⟩) hS (fun q _ h => hF q h) hF (fun r6 u7 t H3 locs ht hvm hw hB hz1 hk1 hS => ?_)
      obtain ⟨hw, nb9⟩ := hw
      try dsimp only at hw hB
      rw [ht] at hB
      cases hw
      have hP := wrk (w2 := wMo cI aM u7 hs) hP hD [0, 1, 2, 3, 4, 5, 6, 7, 8] rfl (by decide) hk1 hB rfl rfl
      have hD := D_addr (w1 := wMo cI aM u7 hs) hD rfl
      refine lv_if_eq (tgt := 46) hx hb dX7_restore_39 (by decide) (fun c_10 => ?_) (fun c_10 => ?_)
      · rw [if_pos c_10] at hR
        refine lv_iconst (v := (2 : Int32)) hx hb dX7_restore_46 (by decide) ?_
        refine va_put (D := (dC, dI)) (ci := 7) (v := .int (2 : Int32)) (ty := .int) (C := RX7) (T := TX7) (N := 15) hx hb hts hin7 tyX7 tyX7_ok nmX7 hown hK hP hD hS 0 rfl rfl 7 (by decide) (hw_ hts 1 rfl) (fun _ h9 => h9) rfl (by decide +kernel) rfl rfl (Nat.le_of_ble_eq_true rfl) dX7_restore_47 (fun H4 locs hP hD hS => ?_)
        have hP : va_P (dC, dI) vwCl (wMo cI aM (pset u7 7 (fun _ => (2 : Int32))) hs) H4 := hP
        have hD : va_D A (wMo cI aM (pset u7 7 (fun _ => (2 : Int32))) hs) := hD
        refine lv_aload_n hx hb dX7_restore_50 rfl (lv_at hl 0 rfl) ?_
        refine va_get (D := (dC, dI)) (ci := 7) (v := .int (2 : Int32)) (C := RX7) (T := TX7) (N := 15) hx hb hts hin7 hown hK hP 0 rfl rfl 7 (by decide) (hw_ hts 1 rfl) (fun _ h9 => h9) rfl dX7_restore_51 ?_
        refine lv_if_le (tgt := 59) hx hb dX7_restore_54 (by decide) (fun q => absurd q (by decide)) (fun _ => ?_)
        refine lv_iconst (v := (0 : Int32)) hx hb dX7_restore_57 (by decide) ?_
        exact W.iret (v := (0 : Int32)) hx hb hr (fun t ht hW => ⟨⟨(0 : Int32), (pset u7 7 (fun _ => (2 : Int32))), rfl, Option.some.inj hR, P_at ht hP⟩, hS.F ht⟩) hS.2.2 dX7_restore_58
      · rw [if_neg c_10] at hR
        refine lv_iconst (v := (0 : Int32)) hx hb dX7_restore_42 (by decide) ?_
        refine lv_goto (tgt := 47) hx hb dX7_restore_43 (by decide) ?_
        refine va_put (D := (dC, dI)) (ci := 7) (v := .int (0 : Int32)) (ty := .int) (C := RX7) (T := TX7) (N := 15) hx hb hts hin7 tyX7 tyX7_ok nmX7 hown hK hP hD hS 0 rfl rfl 7 (by decide) (hw_ hts 1 rfl) (fun _ h9 => h9) rfl (by decide +kernel) rfl rfl (Nat.le_of_ble_eq_true rfl) dX7_restore_47 (fun H4 locs hP hD hS => ?_)
        have hP : va_P (dC, dI) vwCl (wMo cI aM (pset u7 7 (fun _ => (0 : Int32))) hs) H4 := hP
        have hD : va_D A (wMo cI aM (pset u7 7 (fun _ => (0 : Int32))) hs) := hD
        refine lv_aload_n hx hb dX7_restore_50 rfl (lv_at hl 0 rfl) ?_
        refine va_get (D := (dC, dI)) (ci := 7) (v := .int (0 : Int32)) (C := RX7) (T := TX7) (N := 15) hx hb hts hin7 hown hK hP 0 rfl rfl 7 (by decide) (hw_ hts 1 rfl) (fun _ h9 => h9) rfl dX7_restore_51 ?_
        refine lv_if_le (tgt := 59) hx hb dX7_restore_54 (by decide) (fun _ => ?_) (fun q => absurd (by decide) q)
        refine lv_aload_n hx hb dX7_restore_59 rfl (lv_at hl 0 rfl) ?_
        obtain ⟨u11, hc12, hR⟩ := ob1_e hR
        have hF := va_free (wc := wMo cI aM (pset u7 7 (fun _ => (0 : Int32))) hs) hD hS hA [0, 1, 2, 3, 4, 5, 6, 7, 8] rfl
        refine va_callv (va_runV (As := []) (rest := []) ⟨hx, hb, hml, hown, hts⟩ (met_X7_save l dC dI cI cZ cS aM (pset u7 7 (fun _ => (0 : Int32))) hs H4.size u11 hc12) (cwV 0 hts gX7_restore_X7_save rfl rfl rfl (by decide +kernel) ⟨Nat.le_of_ble_eq_true rfl, Nat.le_of_ble_eq_true rfl⟩) (pV (wc := wMo cI aM (pset u7 7 (fun _ => (0 : Int32))) hs) (ci := 7) (q0 := 0) hK hP hD hN [0, 1, 2, 3, 4, 5, 6, 7, 8] rfl (by decide) rfl rfl) rfl rfl hl.1 rfl (lv_room (Nat.le_of_ble_eq_true rfl)) dX7_restore_60 ⟨Nat.zero_le _, Nat.zero_le _⟩) hS (fun q _ h => hF q h) hF (fun  u11 t H5 locs ht hvm hw hB hz1 hk1 hS => ?_)
        try dsimp only at hw hB
        rw [ht] at hB
        cases hw
        have hP := wrk (w2 := wMo cI aM u11 hs) hP hD [0, 1, 2, 3, 4, 5, 6, 7, 8] rfl (by decide) hk1 hB rfl rfl
        have hD := D_addr (w1 := wMo cI aM u11 hs) hD rfl
        refine lv_iconst (v := (0 : Int32)) hx hb dX7_restore_63 (by decide) ?_
        refine lv_istore_n (lv' := [(2, .int (0 : Int32)), (0, .ref (aM 0)), (1, .int p1)]) hx hb dX7_restore_64 rfl hl (by decide) rfl (fun ls hl => ?_)
        have LOOP65 : ∀ (k : Pic → (Option (Int32 × Pic))), (∀ (M_65 : Pic) (H6 : Heap) (locs : List Loc), k M_65 = some res → va_P (dC, dI) vwCl (wMo cI aM M_65 hs) H6 → va_D A (wMo cI aM M_65 hs) → va_S A s.heap H6 locs → ∀ (ls : Array Slot), lv_has ls 3 [(0, .ref (aM 0))] → W p l e (headSpec wsX7_restore rm_X7_restore).room s m ([.ref (aM 0), .int p1] : List Value).toArray below meth c H6 locs 0 0 (MQ below (q_X7_restore dC dI cI cZ cS aM hs res A) ([.ref (aM 0), .int p1] : List Value).toArray s 0 0 A) (F0 m 97 ls [])) → ∀ (nf : Nat) (x2_65 : Int32) (M_65 : Pic) (H6 : Heap) (locs : List Loc), ((84 : Int32)).toInt - (x2_65).toInt ≤ (nf : Int) → f7_restore_L65 p1 nf x2_65 M_65 k = some res → va_P (dC, dI) vwCl (wMo cI aM M_65 hs) H6 → va_D A (wMo cI aM M_65 hs) → va_S A s.heap H6 locs → ∀ (ls : Array Slot), lv_has ls 3 [(2, .int x2_65), (0, .ref (aM 0)), (1, .int p1)] → W p l e (headSpec wsX7_restore rm_X7_restore).room s m ([.ref (aM 0), .int p1] : List Value).toArray below meth c H6 locs 0 0 (MQ below (q_X7_restore dC dI cI cZ cS aM hs res A) ([.ref (aM 0), .int p1] : List Value).toArray s 0 0 A) (F0 m 65 ls []) := by
          intro k hk nf
          induction nf with
          | zero =>
            intro x2_65 M_65 H6 locs hfu hR hP hD hS ls hl
            rw [f7_restore_L65] at hR
            refine lv_iload_n hx hb dX7_restore_65 rfl (lv_at hl 0 rfl) ?_
            refine lv_bipush (v := (84 : Int32)) hx hb dX7_restore_66 (by decide) ?_
            refine lv_icmp_ge (tgt := 97) hx hb dX7_restore_68 (by decide) (fun c_13 => ?_) (fun c_13 => ?_)
            · skip
              exact hk M_65 _ _  hR hP hD hS ls (lv_sub hl [1] rfl)
            · exact (fuel0 hfu c_13).elim
          | succ nf ih =>
            intro x2_65 M_65 H6 locs hfu hR hP hD hS ls hl
            rw [f7_restore_L65] at hR
            refine lv_iload_n hx hb dX7_restore_65 rfl (lv_at hl 0 rfl) ?_
            refine lv_bipush (v := (84 : Int32)) hx hb dX7_restore_66 (by decide) ?_
            refine lv_icmp_ge (tgt := 97) hx hb dX7_restore_68 (by decide) (fun c_14 => ?_) (fun c_14 => ?_)
            · rw [if_pos c_14] at hR
              exact hk M_65 _ _  hR hP hD hS ls (lv_sub hl [1] rfl)
            · rw [if_neg c_14] at hR
              have hfu := fuelS hfu c_14
              refine lv_aload_n hx hb dX7_restore_71 rfl (lv_at hl 1 rfl) ?_
              refine va_get (D := (dC, dI)) (ci := 7) (v := .ref (aM 1)) (C := RX7) (T := TX7) (N := 15) hx hb hts hin7 hown hK hP 0 rfl rfl 0 (by decide) (hw_ hts 3 rfl) (fun _ h9 => h9) rfl dX7_restore_72 ?_
              refine lv_bipush (v := (89 : Int32)) hx hb dX7_restore_75 (by decide) ?_
              refine lv_iload_n hx hb dX7_restore_77 rfl (lv_at hl 0 rfl) ?_
              refine lv_iadd hx hb dX7_restore_78 ?_
              refine lv_aload_n hx hb dX7_restore_79 rfl (lv_at hl 1 rfl) ?_
              refine va_get (D := (dC, dI)) (ci := 7) (v := .ref (aM 3)) (C := RX7) (T := TX7) (N := 15) hx hb hts hin7 hown hK hP 0 rfl rfl 3 (by decide) (hw_ hts 4 rfl) (fun _ h9 => h9) rfl dX7_restore_80 ?_
              refine lv_bipush (v := (84 : Int32)) hx hb dX7_restore_83 (by decide) ?_
              refine lv_iload_n hx hb dX7_restore_85 rfl (lv_at hl 2 rfl) ?_
              refine lv_imul hx hb dX7_restore_86 ?_
              refine lv_iload_n hx hb dX7_restore_87 rfl (lv_at hl 0 rfl) ?_
              refine lv_iadd hx hb dX7_restore_88 ?_
              obtain ⟨hix15, hR⟩ := ck_some hR
              refine va_iald (f := (M_65 3)) hx hb hK hP 3 0 rfl rfl hix15 dX7_restore_89 ?_
              obtain ⟨hix16, hR⟩ := ck_some hR
              refine va_iast (f := (M_65 0)) hx hb hK hP hD hS 1 0 rfl rfl hix16 dX7_restore_90 (fun H7 locs hP hD hS => ?_)
              have hP : va_P (dC, dI) vwCl (wMo cI aM (pset M_65 0 (upd (M_65 0) (ix ((89 : Int32) + x2_65)) ((M_65 3) (ix (((84 : Int32) * p1) + x2_65))))) hs) H7 := hP
              have hD : va_D A (wMo cI aM (pset M_65 0 (upd (M_65 0) (ix ((89 : Int32) + x2_65)) ((M_65 3) (ix (((84 : Int32) * p1) + x2_65))))) hs) := hD
              obtain ⟨Mb17, hMb17⟩ : ∃ z : Pic, z = (pset M_65 0 (upd (M_65 0) (ix ((89 : Int32) + x2_65)) ((M_65 3) (ix (((84 : Int32) * p1) + x2_65))))) := ⟨_, rfl⟩
              rw [← hMb17] at hP hD
              have hR := bd_n hMb17 hR
              refine lv_iinc (v := (x2_65 + 1)) (lv' := [(2, .int (x2_65 + 1)), (0, .ref (aM 0)), (1, .int p1)]) hx hb dX7_restore_91 hl (k := 0) rfl rfl (by decide) rfl (fun ls hl => ?_)
              refine lv_goto (tgt := 65) hx hb dX7_restore_94 (by decide) ?_
              exact ih (x2_65 + 1) Mb17 _ _ hfu hR hP hD hS ls (lv_sub hl [0, 1, 2] rfl)
        refine LOOP65 (fun M_65 => (ob1 (f7_dishesInPlan M_65) (fun r18 => (some (r18, M_65))))) (fun M_65 H6 locs hR hP hD hS ls hl => ?_) 84 (0 : Int32) u11 _ _ (by decide) hR hP hD hS ls (lv_sub hl [0, 1, 2] rfl)
        try dsimp only at hR
        refine lv_aload_n hx hb dX7_restore_97 rfl (lv_at hl 0 rfl) ?_
        obtain ⟨r18, hc19, hR⟩ := ob1_e hR
        refine va_calli (va_runV (As := []) (rest := []) ⟨hx, hb, hml, hown, hts⟩ (met_X7_dishesInPlan l dC dI cI cZ cS aM M_65 hs H6.size r18 hc19) (cwV 0 hts gX7_restore_X7_dishesInPlan rfl rfl rfl (by decide +kernel) ⟨Nat.le_of_ble_eq_true rfl, Nat.le_of_ble_eq_true rfl⟩) (pV (wc := wMo cI aM M_65 hs) (ci := 7) (q0 := 0) hK hP hD hN [0, 1, 2, 3, 4, 5, 6, 7, 8] rfl (by decide) rfl rfl) rfl rfl hl.1 rfl (lv_room (Nat.le_of_ble_eq_true rfl)) dX7_restore_98 ⟨Nat.zero_le _, Nat.zero_le _⟩) hS (fun q _ h => a0_in hS hA q h) (a0_in hS hA) (fun r18 u t H7 locs ht hvm hw hB hz1 hk1 hS => ?_)
        cases hw
        have hP := rdk hP hk1
        exact W.iret (v := r18) hx hb hr (fun t ht hW => ⟨⟨r18, M_65, rfl, Option.some.inj hR, P_at ht hP⟩, hS.F ht⟩) hS.2.2 dX7_restore_101
abbrev rm_X7_undo : Room := { frames := 0, cells := 0, slots := 0, locals := 0 }
abbrev q_X7_undo (dC : Nat → ClassId) (dI : Nat → Nat → Nat) (cI cZ cS : ClassId) (aM : Nat → Nat) (hs : Int64) (res : Int32 × Pic) (A : Nat → Prop) : Array Value → State → Outcome → State → Prop := va_Qi (fun (r : Int32) (u : Pic) => (r, u) = res) (fun u t => va_P (dC, dI) vwCl (wMo cI aM u hs) t.heap) A
set_option maxHeartbeats 4000000 in
set_option maxRecDepth 100000 in
theorem met_X7_undo (l : Launch) (dC : Nat → ClassId) (dI : Nat → Nat → Nat) (cI cZ cS : ClassId) (aM : Nat → Nat) (M : Pic) (hs : Int64) (sz : Nat)  (res : Int32 × Pic) (hR : f7_undo M = some res) : Met l yX7_undo wsX7_undo rm_X7_undo (va_Pc [.ref (aM 0)] (pW (dC, dI) (tyS cI cZ cS) (wMo cI aM M hs) sz)) (q_X7_undo dC dI cI cZ cS aM hs res (va_A (wMo cI aM M hs) sz)) 0 0 (va_A (wMo cI aM M hs) sz) := by
  refine Met.ofW (cc := cX7_undo) (maxL := 2) (ret := (some .int)) (by decide) rfl ?_
  intro p e s m args below meth c s₁ B hml hv
  obtain ⟨rfl, hsz, hP, hK, hD0, hN⟩ := hv
  have hx := B.exec
  have hb := B.bytes
  have hr := B.returns
  have hts := atoms_spec (ws := wsX7_undo) B.pre
  have hown : s.vm.findClass RX7 = some m.cls := findClass_of_methodNamed B.named
  have hlocks := B.notSynchronized
  subst hsz
  have hD := hD0.self (sz := s.heap.size)
  generalize hAe : va_A (wMo cI aM M hs) s.heap.size = A at hD ⊢
  have hA : ∀ q : Nat, s.heap.size ≤ q → A q := fun q h => by rw [← hAe]; exact Or.inr h
  have hS : va_S A s.heap s.heap [] := va_S.rf
  have hP : va_P (dC, dI) vwCl (wMo cI aM M hs) s.heap := hP
  rw [f7_undo] at hR
  have hin7 : ∀ w ∈ wsX70, w ∈ wsX7_undo := by decide +kernel
  have hl := lv_entry ([.ref (aM 0)]) (n := 2) (Nat.le_of_ble_eq_true rfl)
  rw [lg_entry_eq]
  generalize (lg_sl ([.ref (aM 0)]) ++ List.replicate (2 - (lg_sl ([.ref (aM 0)])).length) Slot.unset).toArray = ls at hl ⊢
  have hl : lv_has ls 2 [(0, .ref (aM 0))] := hl
  refine lv_aload_n hx hb dX7_undo_0 rfl (lv_at hl 0 rfl) ?_
  refine lv_aload_n hx hb dX7_undo_1 rfl (lv_at hl 0 rfl) ?_
  refine va_get (D := (dC, dI)) (ci := 7) (v := .int ((M 1) 0)) (C := RX7) (T := TX7) (N := 15) hx hb hts hin7 hown hK hP 0 rfl rfl 1 (by decide) (hw_ hts 1 rfl) (fun _ h9 => h9) rfl dX7_undo_2 ?_
  refine lv_if_le (tgt := 12) hx hb dX7_undo_5 (by decide) (fun c_1 => ?_) (fun c_1 => ?_)
  · rw [if_pos c_1] at hR
    refine lv_iconst (v := (1 : Int32)) hx hb dX7_undo_12 (by decide) ?_
    refine va_put (D := (dC, dI)) (ci := 7) (v := .int (1 : Int32)) (ty := .int) (C := RX7) (T := TX7) (N := 15) hx hb hts hin7 tyX7 tyX7_ok nmX7 hown hK hP hD hS 0 rfl rfl 7 (by decide) (hw_ hts 2 rfl) (fun _ h9 => h9) rfl (by decide +kernel) rfl rfl (Nat.le_of_ble_eq_true rfl) dX7_undo_13 (fun H1 locs hP hD hS => ?_)
    have hP : va_P (dC, dI) vwCl (wMo cI aM (pset M 7 (fun _ => (1 : Int32))) hs) H1 := hP
    have hD : va_D A (wMo cI aM (pset M 7 (fun _ => (1 : Int32))) hs) := hD
    refine lv_aload_n hx hb dX7_undo_16 rfl (lv_at hl 0 rfl) ?_
    refine va_get (D := (dC, dI)) (ci := 7) (v := .int (1 : Int32)) (C := RX7) (T := TX7) (N := 15) hx hb hts hin7 hown hK hP 0 rfl rfl 7 (by decide) (hw_ hts 2 rfl) (fun _ h9 => h9) rfl dX7_undo_17 ?_
    refine lv_if_le (tgt := 25) hx hb dX7_undo_20 (by decide) (fun q => absurd q (by decide)) (fun _ => ?_)
    refine lv_iconst (v := (0 : Int32)) hx hb dX7_undo_23 (by decide) ?_
    exact W.iret (v := (0 : Int32)) hx hb hr (fun t ht hW => ⟨⟨(0 : Int32), (pset M 7 (fun _ => (1 : Int32))), rfl, Option.some.inj hR, P_at ht hP⟩, hS.F ht⟩) hS.2.2 dX7_undo_24
  · rw [if_neg c_1] at hR
    refine lv_iconst (v := (0 : Int32)) hx hb dX7_undo_8 (by decide) ?_
    refine lv_goto (tgt := 13) hx hb dX7_undo_9 (by decide) ?_
    refine va_put (D := (dC, dI)) (ci := 7) (v := .int (0 : Int32)) (ty := .int) (C := RX7) (T := TX7) (N := 15) hx hb hts hin7 tyX7 tyX7_ok nmX7 hown hK hP hD hS 0 rfl rfl 7 (by decide) (hw_ hts 2 rfl) (fun _ h9 => h9) rfl (by decide +kernel) rfl rfl (Nat.le_of_ble_eq_true rfl) dX7_undo_13 (fun H1 locs hP hD hS => ?_)
    have hP : va_P (dC, dI) vwCl (wMo cI aM (pset M 7 (fun _ => (0 : Int32))) hs) H1 := hP
    have hD : va_D A (wMo cI aM (pset M 7 (fun _ => (0 : Int32))) hs) := hD
    refine lv_aload_n hx hb dX7_undo_16 rfl (lv_at hl 0 rfl) ?_
    refine va_get (D := (dC, dI)) (ci := 7) (v := .int (0 : Int32)) (C := RX7) (T := TX7) (N := 15) hx hb hts hin7 hown hK hP 0 rfl rfl 7 (by decide) (hw_ hts 2 rfl) (fun _ h9 => h9) rfl dX7_undo_17 ?_
    refine lv_if_le (tgt := 25) hx hb dX7_undo_20 (by decide) (fun _ => ?_) (fun q => absurd (by decide) q)
    refine lv_aload_n hx hb dX7_undo_25 rfl (lv_at hl 0 rfl) ?_
    refine lv_dup hx hb dX7_undo_26 rfl ?_
    refine va_get (D := (dC, dI)) (ci := 7) (v := .int ((M 1) 0)) (C := RX7) (T := TX7) (N := 15) hx hb hts hin7 hown hK hP 0 rfl rfl 1 (by decide) (hw_ hts 1 rfl) (fun _ h9 => h9) rfl dX7_undo_27 ?_
    refine lv_iconst (v := (1 : Int32)) hx hb dX7_undo_30 (by decide) ?_
    refine lv_isub hx hb dX7_undo_31 ?_
    refine va_put (D := (dC, dI)) (ci := 7) (v := .int (((M 1) 0) - (1 : Int32))) (ty := .int) (C := RX7) (T := TX7) (N := 15) hx hb hts hin7 tyX7 tyX7_ok nmX7 hown hK hP hD hS 0 rfl rfl 1 (by decide) (hw_ hts 1 rfl) (fun _ h9 => h9) rfl (by decide +kernel) rfl rfl (Nat.le_of_ble_eq_true rfl) dX7_undo_32 (fun H2 locs hP hD hS => ?_)
    have hP : va_P (dC, dI) vwCl (wMo cI aM (pset (pset M 1 (fun _ => (((M 1) 0) - (1 : Int32)))) 7 (fun _ => (0 : Int32))) hs) H2 := hP
    have hD : va_D A (wMo cI aM (pset (pset M 1 (fun _ => (((M 1) 0) - (1 : Int32)))) 7 (fun _ => (0 : Int32))) hs) := hD
    obtain ⟨Mb2, hMb2⟩ : ∃ z : Pic, z = (pset (pset M 1 (fun _ => (((M 1) 0) - (1 : Int32)))) 7 (fun _ => (0 : Int32))) := ⟨_, rfl⟩
    rw [← hMb2] at hP hD
    have hR := bd_n hMb2 hR
    refine lv_iconst (v := (0 : Int32)) hx hb dX7_undo_35 (by decide) ?_
    refine lv_istore_n (lv' := [(1, .int (0 : Int32)), (0, .ref (aM 0))]) hx hb dX7_undo_36 rfl hl (by decide) rfl (fun ls hl => ?_)
    have LOOP37 : ∀ (k : Pic → (Option (Int32 × Pic))), (∀ (M_37 : Pic) (H3 : Heap) (locs : List Loc), k M_37 = some res → va_P (dC, dI) vwCl (wMo cI aM M_37 hs) H3 → va_D A (wMo cI aM M_37 hs) → va_S A s.heap H3 locs → ∀ (ls : Array Slot), lv_has ls 2 [(0, .ref (aM 0))] → W p l e (headSpec wsX7_undo rm_X7_undo).room s m ([.ref (aM 0)] : List Value).toArray below meth c H3 locs 0 0 (MQ below (q_X7_undo dC dI cI cZ cS aM hs res A) ([.ref (aM 0)] : List Value).toArray s 0 0 A) (F0 m 71 ls [])) → ∀ (nf : Nat) (x1_37 : Int32) (M_37 : Pic) (H3 : Heap) (locs : List Loc), ((173 : Int32)).toInt - (x1_37).toInt ≤ (nf : Int) → f7_undo_L37  nf x1_37 M_37 k = some res → va_P (dC, dI) vwCl (wMo cI aM M_37 hs) H3 → va_D A (wMo cI aM M_37 hs) → va_S A s.heap H3 locs → ∀ (ls : Array Slot), lv_has ls 2 [(1, .int x1_37), (0, .ref (aM 0))] → W p l e (headSpec wsX7_undo rm_X7_undo).room s m ([.ref (aM 0)] : List Value).toArray below meth c H3 locs 0 0 (MQ below (q_X7_undo dC dI cI cZ cS aM hs res A) ([.ref (aM 0)] : List Value).toArray s 0 0 A) (F0 m 37 ls []) := by
      intro k hk nf
      induction nf with
      | zero =>
        intro x1_37 M_37 H3 locs hfu hR hP hD hS ls hl
        rw [f7_undo_L37] at hR
        refine lv_iload_n hx hb dX7_undo_37 rfl (lv_at hl 0 rfl) ?_
        refine lv_sipush (v := (173 : Int32)) hx hb dX7_undo_38 (by decide) ?_
        refine lv_icmp_ge (tgt := 71) hx hb dX7_undo_41 (by decide) (fun c_3 => ?_) (fun c_3 => ?_)
        · skip
          exact hk M_37 _ _  hR hP hD hS ls (lv_sub hl [1] rfl)
        · exact (fuel0 hfu c_3).elim
      | succ nf ih =>
        intro x1_37 M_37 H3 locs hfu hR hP hD hS ls hl
        rw [f7_undo_L37] at hR
        refine lv_iload_n hx hb dX7_undo_37 rfl (lv_at hl 0 rfl) ?_
        refine lv_sipush (v := (173 : Int32)) hx hb dX7_undo_38 (by decide) ?_
        refine lv_icmp_ge (tgt := 71) hx hb dX7_undo_41 (by decide) (fun c_4 => ?_) (fun c_4 => ?_)
        · rw [if_pos c_4] at hR
          exact hk M_37 _ _  hR hP hD hS ls (lv_sub hl [1] rfl)
        · rw [if_neg c_4] at hR
          have hfu := fuelS hfu c_4
          refine lv_aload_n hx hb dX7_undo_44 rfl (lv_at hl 1 rfl) ?_
          refine va_get (D := (dC, dI)) (ci := 7) (v := .ref (aM 1)) (C := RX7) (T := TX7) (N := 15) hx hb hts hin7 hown hK hP 0 rfl rfl 0 (by decide) (hw_ hts 3 rfl) (fun _ h9 => h9) rfl dX7_undo_45 ?_
          refine lv_iload_n hx hb dX7_undo_48 rfl (lv_at hl 0 rfl) ?_
          refine lv_aload_n hx hb dX7_undo_49 rfl (lv_at hl 1 rfl) ?_
          refine va_get (D := (dC, dI)) (ci := 7) (v := .ref (aM 2)) (C := RX7) (T := TX7) (N := 15) hx hb hts hin7 hown hK hP 0 rfl rfl 2 (by decide) (hw_ hts 4 rfl) (fun _ h9 => h9) rfl dX7_undo_50 ?_
          refine lv_sipush (v := (173 : Int32)) hx hb dX7_undo_53 (by decide) ?_
          refine lv_aload_n hx hb dX7_undo_56 rfl (lv_at hl 1 rfl) ?_
          refine va_get (D := (dC, dI)) (ci := 7) (v := .int ((M_37 1) 0)) (C := RX7) (T := TX7) (N := 15) hx hb hts hin7 hown hK hP 0 rfl rfl 1 (by decide) (hw_ hts 1 rfl) (fun _ h9 => h9) rfl dX7_undo_57 ?_
          refine lv_imul hx hb dX7_undo_60 ?_
          refine lv_iload_n hx hb dX7_undo_61 rfl (lv_at hl 0 rfl) ?_
          refine lv_iadd hx hb dX7_undo_62 ?_
          obtain ⟨hix5, hR⟩ := ck_some hR
          refine va_iald (f := (M_37 2)) hx hb hK hP 2 0 rfl rfl hix5 dX7_undo_63 ?_
          obtain ⟨hix6, hR⟩ := ck_some hR
          refine va_iast (f := (M_37 0)) hx hb hK hP hD hS 1 0 rfl rfl hix6 dX7_undo_64 (fun H4 locs hP hD hS => ?_)
          have hP : va_P (dC, dI) vwCl (wMo cI aM (pset M_37 0 (upd (M_37 0) (ix x1_37) ((M_37 2) (ix (((173 : Int32) * ((M_37 1) 0)) + x1_37))))) hs) H4 := hP
          have hD : va_D A (wMo cI aM (pset M_37 0 (upd (M_37 0) (ix x1_37) ((M_37 2) (ix (((173 : Int32) * ((M_37 1) 0)) + x1_37))))) hs) := hD
          obtain ⟨Mb7, hMb7⟩ : ∃ z : Pic, z = (pset M_37 0 (upd (M_37 0) (ix x1_37) ((M_37 2) (ix (((173 : Int32) * ((M_37 1) 0)) + x1_37))))) := ⟨_, rfl⟩
          rw [← hMb7] at hP hD
          have hR := bd_n hMb7 hR
          refine lv_iinc (v := (x1_37 + 1)) (lv' := [(1, .int (x1_37 + 1)), (0, .ref (aM 0))]) hx hb dX7_undo_65 hl (k := 0) rfl rfl (by decide) rfl (fun ls hl => ?_)
          refine lv_goto (tgt := 37) hx hb dX7_undo_68 (by decide) ?_
          exact ih (x1_37 + 1) Mb7 _ _ hfu hR hP hD hS ls (lv_sub hl [0, 1] rfl)
    refine LOOP37 (fun M_37 => (some (((M_37 1) 0), M_37))) (fun M_37 H3 locs hR hP hD hS ls hl => ?_) 173 (0 : Int32) Mb2 _ _ (by decide) hR hP hD hS ls (lv_sub hl [0, 1] rfl)
    try dsimp only at hR
    refine lv_aload_n hx hb dX7_undo_71 rfl (lv_at hl 0 rfl) ?_
    refine va_get (D := (dC, dI)) (ci := 7) (v := .int ((M_37 1) 0)) (C := RX7) (T := TX7) (N := 15) hx hb hts hin7 hown hK hP 0 rfl rfl 1 (by decide) (hw_ hts 1 rfl) (fun _ h9 => h9) rfl dX7_undo_72 ?_
    exact W.iret (v := ((M_37 1) 0)) hx hb hr (fun t ht hW => ⟨⟨((M_37 1) 0), M_37, rfl, Option.some.inj hR, P_at ht hP⟩, hS.F ht⟩) hS.2.2 dX7_undo_75
