abbrev rm_X7_whyNot : Room := { frames := 7, cells := 0, slots := 0, locals := 162 }
abbrev q_X7_whyNot (dC : Nat → ClassId) (dI : Nat → Nat → Nat) (cI cZ cS : ClassId) (aM : Nat → Nat) (hs : Int64) (res : Int32 × Pic) (A : Nat → Prop) : Array Value → State → Outcome → State → Prop := va_Qi (fun (r : Int32) (u : Pic) => (r, u) = res) (fun u t => va_P (dC, dI) vwCl (wMo cI aM u hs) t.heap) A
set_option maxHeartbeats 4000000 in
set_option maxRecDepth 100000 in
theorem met_X7_whyNot (l : Launch) (dC : Nat → ClassId) (dI : Nat → Nat → Nat) (cI cZ cS : ClassId) (aM : Nat → Nat) (M : Pic) (hs : Int64) (sz : Nat) (p1 : Int32) (p2 : Int32) (p3 : Int32) (res : Int32 × Pic) (hR : f7_whyNot M p1 p2 p3 = some res) : Met l yX7_whyNot wsX7_whyNot rm_X7_whyNot (va_Pc [.ref (aM 0), .int p1, .int p2, .int p3] (pW (dC, dI) (tyS cI cZ cS) (wMo cI aM M hs) sz)) (q_X7_whyNot dC dI cI cZ cS aM hs res (va_A (wMo cI aM M hs) sz)) 0 0 (va_A (wMo cI aM M hs) sz) := by
  refine Met.ofW (cc := cX7_whyNot) (maxL := 4) (ret := (some .int)) (by decide) rfl ?_
  intro p e s m args below meth c s₁ B hml hv
  obtain ⟨rfl, hsz, hP, hK, hD0, hN⟩ := hv
  have hx := B.exec
  have hb := B.bytes
  have hr := B.returns
  have hts := atoms_spec (ws := wsX7_whyNot) B.pre
  have hown : s.vm.findClass RX7 = some m.cls := findClass_of_methodNamed B.named
  have hlocks := B.notSynchronized
  subst hsz
  have hD := hD0.self (sz := s.heap.size)
  generalize hAe : va_A (wMo cI aM M hs) s.heap.size = A at hD ⊢
  have hA : ∀ q : Nat, s.heap.size ≤ q → A q := fun q h => by rw [← hAe]; exact Or.inr h
  have hS : va_S A s.heap s.heap [] := va_S.rf
  have hP : va_P (dC, dI) vwCl (wMo cI aM M hs) s.heap := hP
  rw [f7_whyNot] at hR
  have hin7 : ∀ w ∈ wsX70, w ∈ wsX7_whyNot := by decide +kernel
  have hl := lv_entry ([.ref (aM 0), .int p1, .int p2, .int p3]) (n := 4) (Nat.le_of_ble_eq_true rfl)
  rw [lg_entry_eq]
  generalize (lg_sl ([.ref (aM 0), .int p1, .int p2, .int p3]) ++ List.replicate (4 - (lg_sl ([.ref (aM 0), .int p1, .int p2, .int p3])).length) Slot.unset).toArray = ls at hl ⊢
  have hl : lv_has ls 4 [(0, .ref (aM 0)), (1, .int p1), (2, .int p2), (3, .int p3)] := hl
  refine lv_aload_n hx hb dX7_whyNot_0 rfl (lv_at hl 0 rfl) ?_
  refine lv_iload_n hx hb dX7_whyNot_1 rfl (lv_at hl 1 rfl) ?_
  refine va_calli (va_runS (As := [.int p1]) (rest := [.ref (aM 0)]) ⟨hx, hb, hml, hown, hts⟩ (met_X7_isDay l dC dI cI cZ cS s.heap.size p1) (va_cwS 1 hts gX7_whyNot_X7_isDay rfl rfl rfl (by decide +kernel) ⟨Nat.le_of_ble_eq_true rfl, Nat.le_of_ble_eq_true rfl⟩) (pS (wc := []) hK hP hD hN [] rfl (by decide)) rfl rfl hl.1 rfl (lv_room (Nat.le_of_ble_eq_true rfl)) dX7_whyNot_2 ⟨Nat.zero_le _, Nat.zero_le _⟩) hS (fun q _ h => a0_in hS hA q h) (a0_in hS hA) (fun r1 u t H1 locs ht hvm hw hB hz1 hk1 hS => ?_)
  obtain ⟨hw, nb2⟩ := hw
  subst hw
  have hP := rdk hP hk1
  refine lv_if_eq (tgt := 27) hx hb dX7_whyNot_5 (by decide) (fun c_3 => ?_) (fun c_3 => ?_)
  · rw [if_pos c_3] at hR
    refine lv_iconst (v := (1 : Int32)) hx hb dX7_whyNot_27 (by decide) ?_
    refine va_put (D := (dC, dI)) (ci := 7) (v := .int (1 : Int32)) (ty := .int) (C := RX7) (T := TX7) (N := 15) hx hb hts hin7 tyX7 tyX7_ok nmX7 hown hK hP hD hS 0 rfl rfl 7 (by decide) (hw_ hts 1 rfl) (fun _ h9 => h9) rfl (by decide +kernel) rfl rfl (Nat.le_of_ble_eq_true rfl) dX7_whyNot_28 (fun H2 locs hP hD hS => ?_)
    have hP : va_P (dC, dI) vwCl (wMo cI aM (pset M 7 (fun _ => (1 : Int32))) hs) H2 := hP
    have hD : va_D A (wMo cI aM (pset M 7 (fun _ => (1 : Int32))) hs) := hD
    refine lv_aload_n hx hb dX7_whyNot_31 rfl (lv_at hl 0 rfl) ?_
    refine va_get (D := (dC, dI)) (ci := 7) (v := .int (1 : Int32)) (C := RX7) (T := TX7) (N := 15) hx hb hts hin7 hown hK hP 0 rfl rfl 7 (by decide) (hw_ hts 1 rfl) (fun _ h9 => h9) rfl dX7_whyNot_32 ?_
    refine lv_if_le (tgt := 42) hx hb dX7_whyNot_35 (by decide) (fun q => absurd q (by decide)) (fun _ => ?_)
    refine lv_iconst (v := (0 : Int32)) hx hb dX7_whyNot_38 (by decide) ?_
    refine lv_goto (tgt := 49) hx hb dX7_whyNot_39 (by decide) ?_
    exact W.iret (v := (0 : Int32)) hx hb hr (fun t ht hW => ⟨⟨(0 : Int32), (pset M 7 (fun _ => (1 : Int32))), rfl, Option.some.inj hR, P_at ht hP⟩, hS.F ht⟩) hS.2.2 dX7_whyNot_49
  · rw [if_neg c_3] at hR
    refine lv_iload_n hx hb dX7_whyNot_8 rfl (lv_at hl 2 rfl) ?_
    refine va_calli (va_runS (As := [.int p2]) (rest := [.ref (aM 0)]) ⟨hx, hb, hml, hown, hts⟩ (met_X7_isPart l dC dI cI cZ cS H1.size p2) (va_cwS 1 hts gX7_whyNot_X7_isPart rfl rfl rfl (by decide +kernel) ⟨Nat.le_of_ble_eq_true rfl, Nat.le_of_ble_eq_true rfl⟩) (pS (wc := []) hK hP hD hN [] rfl (by decide)) rfl rfl hl.1 rfl (lv_room (Nat.le_of_ble_eq_true rfl)) dX7_whyNot_9 ⟨Nat.zero_le _, Nat.zero_le _⟩) hS (fun q _ h => a0_in hS hA q h) (a0_in hS hA) (fun r4 u t H2 locs ht hvm hw hB hz1 hk1 hS => ?_)
    obtain ⟨hw, nb5⟩ := hw
    subst hw
    have hP := rdk hP hk1
    refine lv_if_eq (tgt := 27) hx hb dX7_whyNot_12 (by decide) (fun c_6 => ?_) (fun c_6 => ?_)
    · rw [if_pos c_6] at hR
      refine lv_iconst (v := (1 : Int32)) hx hb dX7_whyNot_27 (by decide) ?_
      refine va_put (D := (dC, dI)) (ci := 7) (v := .int (1 : Int32)) (ty := .int) (C := RX7) (T := TX7) (N := 15) hx hb hts hin7 tyX7 tyX7_ok nmX7 hown hK hP hD hS 0 rfl rfl 7 (by decide) (hw_ hts 1 rfl) (fun _ h9 => h9) rfl (by decide +kernel) rfl rfl (Nat.le_of_ble_eq_true rfl) dX7_whyNot_28 (fun H3 locs hP hD hS => ?_)
      have hP : va_P (dC, dI) vwCl (wMo cI aM (pset M 7 (fun _ => (1 : Int32))) hs) H3 := hP
      have hD : va_D A (wMo cI aM (pset M 7 (fun _ => (1 : Int32))) hs) := hD
      refine lv_aload_n hx hb dX7_whyNot_31 rfl (lv_at hl 0 rfl) ?_
      refine va_get (D := (dC, dI)) (ci := 7) (v := .int (1 : Int32)) (C := RX7) (T := TX7) (N := 15) hx hb hts hin7 hown hK hP 0 rfl rfl 7 (by decide) (hw_ hts 1 rfl) (fun _ h9 => h9) rfl dX7_whyNot_32 ?_
      refine lv_if_le (tgt := 42) hx hb dX7_whyNot_35 (by decide) (fun q => absurd q (by decide)) (fun _ => ?_)
      refine lv_iconst (v := (0 : Int32)) hx hb dX7_whyNot_38 (by decide) ?_
      refine lv_goto (tgt := 49) hx hb dX7_whyNot_39 (by decide) ?_
      exact W.iret (v := (0 : Int32)) hx hb hr (fun t ht hW => ⟨⟨(0 : Int32), (pset M 7 (fun _ => (1 : Int32))), rfl, Option.some.inj hR, P_at ht hP⟩, hS.F ht⟩) hS.2.2 dX7_whyNot_49
    · rw [if_neg c_6] at hR
      refine lv_aload_n hx hb dX7_whyNot_15 rfl (lv_at hl 0 rfl) ?_
      refine lv_iload_n hx hb dX7_whyNot_16 rfl (lv_at hl 3 rfl) ?_
      refine va_calli (va_runV (As := [.int p3]) (rest := [.ref (aM 0)]) ⟨hx, hb, hml, hown, hts⟩ (met_X7_isDish l dC dI cI cZ cS aM M hs H2.size p3) (cwV 1 hts gX7_whyNot_X7_isDish rfl rfl rfl (by decide +kernel) ⟨Nat.le_of_ble_eq_true rfl, Nat.le_of_ble_eq_true rfl⟩) (pV (wc := wMo cI aM M hs) (ci := 7) (q0 := 0) hK hP hD hN [0, 1, 2, 3, 4, 5, 6, 7, 8] rfl (by decide) rfl rfl) rfl rfl hl.1 rfl (lv_room (Nat.le_of_ble_eq_true rfl)) dX7_whyNot_17 ⟨Nat.zero_le _, Nat.zero_le _⟩) hS (fun q _ h => a0_in hS hA q h) (a0_in hS hA) (fun r7 u t H3 locs ht hvm hw hB hz1 hk1 hS => ?_)
      obtain ⟨hw, nb8⟩ := hw
      subst hw
      have hP := rdk hP hk1
      refine lv_if_eq (tgt := 27) hx hb dX7_whyNot_20 (by decide) (fun c_9 => ?_) (fun c_9 => ?_)
      · rw [if_pos c_9] at hR
        refine lv_iconst (v := (1 : Int32)) hx hb dX7_whyNot_27 (by decide) ?_
        refine va_put (D := (dC, dI)) (ci := 7) (v := .int (1 : Int32)) (ty := .int) (C := RX7) (T := TX7) (N := 15) hx hb hts hin7 tyX7 tyX7_ok nmX7 hown hK hP hD hS 0 rfl rfl 7 (by decide) (hw_ hts 1 rfl) (fun _ h9 => h9) rfl (by decide +kernel) rfl rfl (Nat.le_of_ble_eq_true rfl) dX7_whyNot_28 (fun H4 locs hP hD hS => ?_)
        have hP : va_P (dC, dI) vwCl (wMo cI aM (pset M 7 (fun _ => (1 : Int32))) hs) H4 := hP
        have hD : va_D A (wMo cI aM (pset M 7 (fun _ => (1 : Int32))) hs) := hD
        refine lv_aload_n hx hb dX7_whyNot_31 rfl (lv_at hl 0 rfl) ?_
        refine va_get (D := (dC, dI)) (ci := 7) (v := .int (1 : Int32)) (C := RX7) (T := TX7) (N := 15) hx hb hts hin7 hown hK hP 0 rfl rfl 7 (by decide) (hw_ hts 1 rfl) (fun _ h9 => h9) rfl dX7_whyNot_32 ?_
        refine lv_if_le (tgt := 42) hx hb dX7_whyNot_35 (by decide) (fun q => absurd q (by decide)) (fun _ => ?_)
        refine lv_iconst (v := (0 : Int32)) hx hb dX7_whyNot_38 (by decide) ?_
        refine lv_goto (tgt := 49) hx hb dX7_whyNot_39 (by decide) ?_
        exact W.iret (v := (0 : Int32)) hx hb hr (fun t ht hW => ⟨⟨(0 : Int32), (pset M 7 (fun _ => (1 : Int32))), rfl, Option.some.inj hR, P_at ht hP⟩, hS.F ht⟩) hS.2.2 dX7_whyNot_49
      · rw [if_neg c_9] at hR
        refine lv_iconst (v := (0 : Int32)) hx hb dX7_whyNot_23 (by decide) ?_
        refine lv_goto (tgt := 28) hx hb dX7_whyNot_24 (by decide) ?_
        refine va_put (D := (dC, dI)) (ci := 7) (v := .int (0 : Int32)) (ty := .int) (C := RX7) (T := TX7) (N := 15) hx hb hts hin7 tyX7 tyX7_ok nmX7 hown hK hP hD hS 0 rfl rfl 7 (by decide) (hw_ hts 1 rfl) (fun _ h9 => h9) rfl (by decide +kernel) rfl rfl (Nat.le_of_ble_eq_true rfl) dX7_whyNot_28 (fun H4 locs hP hD hS => ?_)
        have hP : va_P (dC, dI) vwCl (wMo cI aM (pset M 7 (fun _ => (0 : Int32))) hs) H4 := hP
        have hD : va_D A (wMo cI aM (pset M 7 (fun _ => (0 : Int32))) hs) := hD
        refine lv_aload_n hx hb dX7_whyNot_31 rfl (lv_at hl 0 rfl) ?_
        refine va_get (D := (dC, dI)) (ci := 7) (v := .int (0 : Int32)) (C := RX7) (T := TX7) (N := 15) hx hb hts hin7 hown hK hP 0 rfl rfl 7 (by decide) (hw_ hts 1 rfl) (fun _ h9 => h9) rfl dX7_whyNot_32 ?_
        refine lv_if_le (tgt := 42) hx hb dX7_whyNot_35 (by decide) (fun _ => ?_) (fun q => absurd (by decide) q)
        refine lv_aload_n hx hb dX7_whyNot_42 rfl (lv_at hl 0 rfl) ?_
        refine lv_iload_n hx hb dX7_whyNot_43 rfl (lv_at hl 1 rfl) ?_
        refine lv_iload_n hx hb dX7_whyNot_44 rfl (lv_at hl 2 rfl) ?_
        refine lv_iload_n hx hb dX7_whyNot_45 rfl (lv_at hl 3 rfl) ?_
        obtain ⟨r10, u11, hc12, hR⟩ := ob2_e hR
        have hF := va_free (wc := wMo cI aM (pset M 7 (fun _ => (0 : Int32))) hs) hD hS hA [0, 1, 2, 3, 4, 5, 6, 7, 8] rfl
        refine va_calli (va_runV (As := [.int p1, .int p2, .int p3]) (rest := []) ⟨hx, hb, hml, hown, hts⟩ (met_X7_reason l dC dI cI cZ cS aM (pset M 7 (fun _ => (0 : Int32))) hs H4.size p1 p2 p3 (r10, u11) hc12) (cwV 3 hts gX7_whyNot_X7_reason rfl rfl rfl (by decide +kernel) ⟨Nat.le_of_ble_eq_true rfl, Nat.le_of_ble_eq_true rfl⟩) (pV (wc := wMo cI aM (pset M 7 (fun _ => (0 : Int32))) hs) (ci := 7) (q0 := 0) hK hP hD hN [0, 1, 2, 3, 4, 5, 6, 7, 8] rfl (by decide) rfl rfl) rfl rfl hl.1 rfl (lv_room (Nat.le_of_ble_eq_true rfl)) dX7_whyNot_46 ⟨Nat.zero_le _, Nat.zero_le _⟩) hS (fun q _ h => hF q h) hF (fun r10 u11 t H5 locs ht hvm hw hB hz1 hk1 hS => ?_)
        try dsimp only at hw hB
        rw [ht] at hB
        cases hw
        have hP := wrk (w2 := wMo cI aM u11 hs) hP hD [0, 1, 2, 3, 4, 5, 6, 7, 8] rfl (by decide) hk1 hB rfl rfl
        have hD := D_addr (w1 := wMo cI aM u11 hs) hD rfl
        exact W.iret (v := r10) hx hb hr (fun t ht hW => ⟨⟨r10, u11, rfl, Option.some.inj hR, P_at ht hP⟩, hS.F ht⟩) hS.2.2 dX7_whyNot_49
abbrev rm_X7_joyOn : Room := { frames := 2, cells := 0, slots := 0, locals := 47 }
abbrev q_X7_joyOn (dC : Nat → ClassId) (dI : Nat → Nat → Nat) (cI cZ cS : ClassId) (aM : Nat → Nat) (hs : Int64) (res : Int32 × Pic) (A : Nat → Prop) : Array Value → State → Outcome → State → Prop := va_Qi (fun (r : Int32) (u : Pic) => (r, u) = res) (fun u t => va_P (dC, dI) vwCl (wMo cI aM u hs) t.heap) A
set_option maxHeartbeats 4000000 in
set_option maxRecDepth 100000 in
theorem met_X7_joyOn (l : Launch) (dC : Nat → ClassId) (dI : Nat → Nat → Nat) (cI cZ cS : ClassId) (aM : Nat → Nat) (M : Pic) (hs : Int64) (sz : Nat) (p1 : Int32) (p2 : Int32) (res : Int32 × Pic) (hR : f7_joyOn M p1 p2 = some res) : Met l yX7_joyOn wsX7_joyOn rm_X7_joyOn (va_Pc [.ref (aM 0), .int p1, .int p2] (pW (dC, dI) (tyS cI cZ cS) (wMo cI aM M hs) sz)) (q_X7_joyOn dC dI cI cZ cS aM hs res (va_A (wMo cI aM M hs) sz)) 0 0 (va_A (wMo cI aM M hs) sz) := by
  refine Met.ofW (cc := cX7_joyOn) (maxL := 3) (ret := (some .int)) (by decide) rfl ?_
  intro p e s m args below meth c s₁ B hml hv
  obtain ⟨rfl, hsz, hP, hK, hD0, hN⟩ := hv
  have hx := B.exec
  have hb := B.bytes
  have hr := B.returns
  have hts := atoms_spec (ws := wsX7_joyOn) B.pre
  have hown : s.vm.findClass RX7 = some m.cls := findClass_of_methodNamed B.named
  have hlocks := B.notSynchronized
  subst hsz
  have hD := hD0.self (sz := s.heap.size)
  generalize hAe : va_A (wMo cI aM M hs) s.heap.size = A at hD ⊢
  have hA : ∀ q : Nat, s.heap.size ≤ q → A q := fun q h => by rw [← hAe]; exact Or.inr h
  have hS : va_S A s.heap s.heap [] := va_S.rf
  have hP : va_P (dC, dI) vwCl (wMo cI aM M hs) s.heap := hP
  rw [f7_joyOn] at hR
  have hin7 : ∀ w ∈ wsX70, w ∈ wsX7_joyOn := by decide +kernel
  have hl := lv_entry ([.ref (aM 0), .int p1, .int p2]) (n := 3) (Nat.le_of_ble_eq_true rfl)
  rw [lg_entry_eq]
  generalize (lg_sl ([.ref (aM 0), .int p1, .int p2]) ++ List.replicate (3 - (lg_sl ([.ref (aM 0), .int p1, .int p2])).length) Slot.unset).toArray = ls at hl ⊢
  have hl : lv_has ls 3 [(0, .ref (aM 0)), (1, .int p1), (2, .int p2)] := hl
  refine lv_aload_n hx hb dX7_joyOn_0 rfl (lv_at hl 0 rfl) ?_
  refine lv_iload_n hx hb dX7_joyOn_1 rfl (lv_at hl 1 rfl) ?_
  refine va_calli (va_runS (As := [.int p1]) (rest := [.ref (aM 0)]) ⟨hx, hb, hml, hown, hts⟩ (met_X7_isDay l dC dI cI cZ cS s.heap.size p1) (va_cwS 1 hts gX7_joyOn_X7_isDay rfl rfl rfl (by decide +kernel) ⟨Nat.le_of_ble_eq_true rfl, Nat.le_of_ble_eq_true rfl⟩) (pS (wc := []) hK hP hD hN [] rfl (by decide)) rfl rfl hl.1 rfl (lv_room (Nat.le_of_ble_eq_true rfl)) dX7_joyOn_2 ⟨Nat.zero_le _, Nat.zero_le _⟩) hS (fun q _ h => a0_in hS hA q h) (a0_in hS hA) (fun r1 u t H1 locs ht hvm hw hB hz1 hk1 hS => ?_)
  obtain ⟨hw, nb2⟩ := hw
  subst hw
  have hP := rdk hP hk1
  refine lv_if_eq (tgt := 20) hx hb dX7_joyOn_5 (by decide) (fun c_3 => ?_) (fun c_3 => ?_)
  · rw [if_pos c_3] at hR
    refine lv_iconst (v := (1 : Int32)) hx hb dX7_joyOn_20 (by decide) ?_
    refine va_put (D := (dC, dI)) (ci := 7) (v := .int (1 : Int32)) (ty := .int) (C := RX7) (T := TX7) (N := 15) hx hb hts hin7 tyX7 tyX7_ok nmX7 hown hK hP hD hS 0 rfl rfl 7 (by decide) (hw_ hts 1 rfl) (fun _ h9 => h9) rfl (by decide +kernel) rfl rfl (Nat.le_of_ble_eq_true rfl) dX7_joyOn_21 (fun H2 locs hP hD hS => ?_)
    have hP : va_P (dC, dI) vwCl (wMo cI aM (pset M 7 (fun _ => (1 : Int32))) hs) H2 := hP
    have hD : va_D A (wMo cI aM (pset M 7 (fun _ => (1 : Int32))) hs) := hD
    refine lv_aload_n hx hb dX7_joyOn_24 rfl (lv_at hl 0 rfl) ?_
    refine va_get (D := (dC, dI)) (ci := 7) (v := .int (1 : Int32)) (C := RX7) (T := TX7) (N := 15) hx hb hts hin7 hown hK hP 0 rfl rfl 7 (by decide) (hw_ hts 1 rfl) (fun _ h9 => h9) rfl dX7_joyOn_25 ?_
    refine lv_if_le (tgt := 35) hx hb dX7_joyOn_28 (by decide) (fun q => absurd q (by decide)) (fun _ => ?_)
    refine lv_iconst (v := (0 : Int32)) hx hb dX7_joyOn_31 (by decide) ?_
    refine lv_goto (tgt := 41) hx hb dX7_joyOn_32 (by decide) ?_
    exact W.iret (v := (0 : Int32)) hx hb hr (fun t ht hW => ⟨⟨(0 : Int32), (pset M 7 (fun _ => (1 : Int32))), rfl, Option.some.inj hR, P_at ht hP⟩, hS.F ht⟩) hS.2.2 dX7_joyOn_41
  · rw [if_neg c_3] at hR
    refine lv_aload_n hx hb dX7_joyOn_8 rfl (lv_at hl 0 rfl) ?_
    refine lv_iload_n hx hb dX7_joyOn_9 rfl (lv_at hl 2 rfl) ?_
    refine va_calli (va_runV (As := [.int p2]) (rest := [.ref (aM 0)]) ⟨hx, hb, hml, hown, hts⟩ (met_X7_isDish l dC dI cI cZ cS aM M hs H1.size p2) (cwV 1 hts gX7_joyOn_X7_isDish rfl rfl rfl (by decide +kernel) ⟨Nat.le_of_ble_eq_true rfl, Nat.le_of_ble_eq_true rfl⟩) (pV (wc := wMo cI aM M hs) (ci := 7) (q0 := 0) hK hP hD hN [0, 1, 2, 3, 4, 5, 6, 7, 8] rfl (by decide) rfl rfl) rfl rfl hl.1 rfl (lv_room (Nat.le_of_ble_eq_true rfl)) dX7_joyOn_10 ⟨Nat.zero_le _, Nat.zero_le _⟩) hS (fun q _ h => a0_in hS hA q h) (a0_in hS hA) (fun r4 u t H2 locs ht hvm hw hB hz1 hk1 hS => ?_)
    obtain ⟨hw, nb5⟩ := hw
    subst hw
    have hP := rdk hP hk1
    refine lv_if_eq (tgt := 20) hx hb dX7_joyOn_13 (by decide) (fun c_6 => ?_) (fun c_6 => ?_)
    · rw [if_pos c_6] at hR
      refine lv_iconst (v := (1 : Int32)) hx hb dX7_joyOn_20 (by decide) ?_
      refine va_put (D := (dC, dI)) (ci := 7) (v := .int (1 : Int32)) (ty := .int) (C := RX7) (T := TX7) (N := 15) hx hb hts hin7 tyX7 tyX7_ok nmX7 hown hK hP hD hS 0 rfl rfl 7 (by decide) (hw_ hts 1 rfl) (fun _ h9 => h9) rfl (by decide +kernel) rfl rfl (Nat.le_of_ble_eq_true rfl) dX7_joyOn_21 (fun H3 locs hP hD hS => ?_)
      have hP : va_P (dC, dI) vwCl (wMo cI aM (pset M 7 (fun _ => (1 : Int32))) hs) H3 := hP
      have hD : va_D A (wMo cI aM (pset M 7 (fun _ => (1 : Int32))) hs) := hD
      refine lv_aload_n hx hb dX7_joyOn_24 rfl (lv_at hl 0 rfl) ?_
      refine va_get (D := (dC, dI)) (ci := 7) (v := .int (1 : Int32)) (C := RX7) (T := TX7) (N := 15) hx hb hts hin7 hown hK hP 0 rfl rfl 7 (by decide) (hw_ hts 1 rfl) (fun _ h9 => h9) rfl dX7_joyOn_25 ?_
      refine lv_if_le (tgt := 35) hx hb dX7_joyOn_28 (by decide) (fun q => absurd q (by decide)) (fun _ => ?_)
      refine lv_iconst (v := (0 : Int32)) hx hb dX7_joyOn_31 (by decide) ?_
      refine lv_goto (tgt := 41) hx hb dX7_joyOn_32 (by decide) ?_
      exact W.iret (v := (0 : Int32)) hx hb hr (fun t ht hW => ⟨⟨(0 : Int32), (pset M 7 (fun _ => (1 : Int32))), rfl, Option.some.inj hR, P_at ht hP⟩, hS.F ht⟩) hS.2.2 dX7_joyOn_41
    · rw [if_neg c_6] at hR
      refine lv_iconst (v := (0 : Int32)) hx hb dX7_joyOn_16 (by decide) ?_
      refine lv_goto (tgt := 21) hx hb dX7_joyOn_17 (by decide) ?_
      refine va_put (D := (dC, dI)) (ci := 7) (v := .int (0 : Int32)) (ty := .int) (C := RX7) (T := TX7) (N := 15) hx hb hts hin7 tyX7 tyX7_ok nmX7 hown hK hP hD hS 0 rfl rfl 7 (by decide) (hw_ hts 1 rfl) (fun _ h9 => h9) rfl (by decide +kernel) rfl rfl (Nat.le_of_ble_eq_true rfl) dX7_joyOn_21 (fun H3 locs hP hD hS => ?_)
      have hP : va_P (dC, dI) vwCl (wMo cI aM (pset M 7 (fun _ => (0 : Int32))) hs) H3 := hP
      have hD : va_D A (wMo cI aM (pset M 7 (fun _ => (0 : Int32))) hs) := hD
      refine lv_aload_n hx hb dX7_joyOn_24 rfl (lv_at hl 0 rfl) ?_
      refine va_get (D := (dC, dI)) (ci := 7) (v := .int (0 : Int32)) (C := RX7) (T := TX7) (N := 15) hx hb hts hin7 hown hK hP 0 rfl rfl 7 (by decide) (hw_ hts 1 rfl) (fun _ h9 => h9) rfl dX7_joyOn_25 ?_
      refine lv_if_le (tgt := 35) hx hb dX7_joyOn_28 (by decide) (fun _ => ?_) (fun q => absurd (by decide) q)
      refine lv_aload_n hx hb dX7_joyOn_35 rfl (lv_at hl 0 rfl) ?_
      refine lv_iload_n hx hb dX7_joyOn_36 rfl (lv_at hl 1 rfl) ?_
      refine lv_iload_n hx hb dX7_joyOn_37 rfl (lv_at hl 2 rfl) ?_
      obtain ⟨r7, hc8, hR⟩ := ob1_e hR
      refine va_calli (va_runV (As := [.int p1, .int p2]) (rest := []) ⟨hx, hb, hml, hown, hts⟩ (met_X7_joyNow l dC dI cI cZ cS aM (pset M 7 (fun _ => (0 : Int32))) hs H3.size p1 p2 r7 hc8) (cwV 2 hts gX7_joyOn_X7_joyNow rfl rfl rfl (by decide +kernel) ⟨Nat.le_of_ble_eq_true rfl, Nat.le_of_ble_eq_true rfl⟩) (pV (wc := wMo cI aM (pset M 7 (fun _ => (0 : Int32))) hs) (ci := 7) (q0 := 0) hK hP hD hN [0, 1, 2, 3, 4, 5, 6, 7, 8] rfl (by decide) rfl rfl) rfl rfl hl.1 rfl (lv_room (Nat.le_of_ble_eq_true rfl)) dX7_joyOn_38 ⟨Nat.zero_le _, Nat.zero_le _⟩) hS (fun q _ h => a0_in hS hA q h) (a0_in hS hA) (fun r7 u t H4 locs ht hvm hw hB hz1 hk1 hS => ?_)
      cases hw
      have hP := rdk hP hk1
      exact W.iret (v := r7) hx hb hr (fun t ht hW => ⟨⟨r7, (pset M 7 (fun _ => (0 : Int32))), rfl, Option.some.inj hR, P_at ht hP⟩, hS.F ht⟩) hS.2.2 dX7_joyOn_41
abbrev rm_X7_best : Room := { frames := 8, cells := 0, slots := 0, locals := 187 }
abbrev q_X7_best (dC : Nat → ClassId) (dI : Nat → Nat → Nat) (cI cZ cS : ClassId) (aM : Nat → Nat) (hs : Int64) (res : Int32 × Pic) (A : Nat → Prop) : Array Value → State → Outcome → State → Prop := va_Qi (fun (r : Int32) (u : Pic) => (r, u) = res) (fun u t => va_P (dC, dI) vwCl (wMo cI aM u hs) t.heap) A
set_option maxHeartbeats 4000000 in
set_option maxRecDepth 100000 in
theorem met_X7_best (l : Launch) (dC : Nat → ClassId) (dI : Nat → Nat → Nat) (cI cZ cS : ClassId) (aM : Nat → Nat) (M : Pic) (hs : Int64) (sz : Nat) (p1 : Int32) (p2 : Int32) (res : Int32 × Pic) (hR : f7_best M p1 p2 = some res) : Met l yX7_best wsX7_best rm_X7_best (va_Pc [.ref (aM 0), .int p1, .int p2] (pW (dC, dI) (tyS cI cZ cS) (wMo cI aM M hs) sz)) (q_X7_best dC dI cI cZ cS aM hs res (va_A (wMo cI aM M hs) sz)) 0 0 (va_A (wMo cI aM M hs) sz) := by
  refine Met.ofW (cc := cX7_best) (maxL := 3) (ret := (some .int)) (by decide) rfl ?_
  intro p e s m args below meth c s₁ B hml hv
  obtain ⟨rfl, hsz, hP, hK, hD0, hN⟩ := hv
  have hx := B.exec
  have hb := B.bytes
  have hr := B.returns
  have hts := atoms_spec (ws := wsX7_best) B.pre
  have hown : s.vm.findClass RX7 = some m.cls := findClass_of_methodNamed B.named
  have hlocks := B.notSynchronized
  subst hsz
  have hD := hD0.self (sz := s.heap.size)
  generalize hAe : va_A (wMo cI aM M hs) s.heap.size = A at hD ⊢
  have hA : ∀ q : Nat, s.heap.size ≤ q → A q := fun q h => by rw [← hAe]; exact Or.inr h
  have hS : va_S A s.heap s.heap [] := va_S.rf
  have hP : va_P (dC, dI) vwCl (wMo cI aM M hs) s.heap := hP
  rw [f7_best] at hR
  have hin7 : ∀ w ∈ wsX70, w ∈ wsX7_best := by decide +kernel
  have hl := lv_entry ([.ref (aM 0), .int p1, .int p2]) (n := 3) (Nat.le_of_ble_eq_true rfl)
  rw [lg_entry_eq]
  generalize (lg_sl ([.ref (aM 0), .int p1, .int p2]) ++ List.replicate (3 - (lg_sl ([.ref (aM 0), .int p1, .int p2])).length) Slot.unset).toArray = ls at hl ⊢
  have hl : lv_has ls 3 [(0, .ref (aM 0)), (1, .int p1), (2, .int p2)] := hl
  refine lv_aload_n hx hb dX7_best_0 rfl (lv_at hl 0 rfl) ?_
  refine lv_iload_n hx hb dX7_best_1 rfl (lv_at hl 1 rfl) ?_
  refine va_calli (va_runS (As := [.int p1]) (rest := [.ref (aM 0)]) ⟨hx, hb, hml, hown, hts⟩ (met_X7_isDay l dC dI cI cZ cS s.heap.size p1) (va_cwS 1 hts gX7_best_X7_isDay rfl rfl rfl (by decide +kernel) ⟨Nat.le_of_ble_eq_true rfl, Nat.le_of_ble_eq_true rfl⟩) (pS (wc := []) hK hP hD hN [] rfl (by decide)) rfl rfl hl.1 rfl (lv_room (Nat.le_of_ble_eq_true rfl)) dX7_best_2 ⟨Nat.zero_le _, Nat.zero_le _⟩) hS (fun q _ h => a0_in hS hA q h) (a0_in hS hA) (fun r1 u t H1 locs ht hvm hw hB hz1 hk1 hS => ?_)
  obtain ⟨hw, nb2⟩ := hw
  subst hw
  have hP := rdk hP hk1
  refine lv_if_eq (tgt := 19) hx hb dX7_best_5 (by decide) (fun c_3 => ?_) (fun c_3 => ?_)
  · rw [if_pos c_3] at hR
    refine lv_iconst (v := (1 : Int32)) hx hb dX7_best_19 (by decide) ?_
    refine va_put (D := (dC, dI)) (ci := 7) (v := .int (1 : Int32)) (ty := .int) (C := RX7) (T := TX7) (N := 15) hx hb hts hin7 tyX7 tyX7_ok nmX7 hown hK hP hD hS 0 rfl rfl 7 (by decide) (hw_ hts 1 rfl) (fun _ h9 => h9) rfl (by decide +kernel) rfl rfl (Nat.le_of_ble_eq_true rfl) dX7_best_20 (fun H2 locs hP hD hS => ?_)
    have hP : va_P (dC, dI) vwCl (wMo cI aM (pset M 7 (fun _ => (1 : Int32))) hs) H2 := hP
    have hD : va_D A (wMo cI aM (pset M 7 (fun _ => (1 : Int32))) hs) := hD
    refine lv_aload_n hx hb dX7_best_23 rfl (lv_at hl 0 rfl) ?_
    refine va_get (D := (dC, dI)) (ci := 7) (v := .int (1 : Int32)) (C := RX7) (T := TX7) (N := 15) hx hb hts hin7 hown hK hP 0 rfl rfl 7 (by decide) (hw_ hts 1 rfl) (fun _ h9 => h9) rfl dX7_best_24 ?_
    refine lv_if_le (tgt := 34) hx hb dX7_best_27 (by decide) (fun q => absurd q (by decide)) (fun _ => ?_)
    refine lv_iconst (v := (0 : Int32)) hx hb dX7_best_30 (by decide) ?_
    refine lv_goto (tgt := 40) hx hb dX7_best_31 (by decide) ?_
    exact W.iret (v := (0 : Int32)) hx hb hr (fun t ht hW => ⟨⟨(0 : Int32), (pset M 7 (fun _ => (1 : Int32))), rfl, Option.some.inj hR, P_at ht hP⟩, hS.F ht⟩) hS.2.2 dX7_best_40
  · rw [if_neg c_3] at hR
    refine lv_iload_n hx hb dX7_best_8 rfl (lv_at hl 2 rfl) ?_
    refine va_calli (va_runS (As := [.int p2]) (rest := [.ref (aM 0)]) ⟨hx, hb, hml, hown, hts⟩ (met_X7_isPart l dC dI cI cZ cS H1.size p2) (va_cwS 1 hts gX7_best_X7_isPart rfl rfl rfl (by decide +kernel) ⟨Nat.le_of_ble_eq_true rfl, Nat.le_of_ble_eq_true rfl⟩) (pS (wc := []) hK hP hD hN [] rfl (by decide)) rfl rfl hl.1 rfl (lv_room (Nat.le_of_ble_eq_true rfl)) dX7_best_9 ⟨Nat.zero_le _, Nat.zero_le _⟩) hS (fun q _ h => a0_in hS hA q h) (a0_in hS hA) (fun r4 u t H2 locs ht hvm hw hB hz1 hk1 hS => ?_)
    obtain ⟨hw, nb5⟩ := hw
    subst hw
    have hP := rdk hP hk1
    refine lv_if_eq (tgt := 19) hx hb dX7_best_12 (by decide) (fun c_6 => ?_) (fun c_6 => ?_)
    · rw [if_pos c_6] at hR
      refine lv_iconst (v := (1 : Int32)) hx hb dX7_best_19 (by decide) ?_
      refine va_put (D := (dC, dI)) (ci := 7) (v := .int (1 : Int32)) (ty := .int) (C := RX7) (T := TX7) (N := 15) hx hb hts hin7 tyX7 tyX7_ok nmX7 hown hK hP hD hS 0 rfl rfl 7 (by decide) (hw_ hts 1 rfl) (fun _ h9 => h9) rfl (by decide +kernel) rfl rfl (Nat.le_of_ble_eq_true rfl) dX7_best_20 (fun H3 locs hP hD hS => ?_)
      have hP : va_P (dC, dI) vwCl (wMo cI aM (pset M 7 (fun _ => (1 : Int32))) hs) H3 := hP
      have hD : va_D A (wMo cI aM (pset M 7 (fun _ => (1 : Int32))) hs) := hD
      refine lv_aload_n hx hb dX7_best_23 rfl (lv_at hl 0 rfl) ?_
      refine va_get (D := (dC, dI)) (ci := 7) (v := .int (1 : Int32)) (C := RX7) (T := TX7) (N := 15) hx hb hts hin7 hown hK hP 0 rfl rfl 7 (by decide) (hw_ hts 1 rfl) (fun _ h9 => h9) rfl dX7_best_24 ?_
      refine lv_if_le (tgt := 34) hx hb dX7_best_27 (by decide) (fun q => absurd q (by decide)) (fun _ => ?_)
      refine lv_iconst (v := (0 : Int32)) hx hb dX7_best_30 (by decide) ?_
      refine lv_goto (tgt := 40) hx hb dX7_best_31 (by decide) ?_
      exact W.iret (v := (0 : Int32)) hx hb hr (fun t ht hW => ⟨⟨(0 : Int32), (pset M 7 (fun _ => (1 : Int32))), rfl, Option.some.inj hR, P_at ht hP⟩, hS.F ht⟩) hS.2.2 dX7_best_40
    · rw [if_neg c_6] at hR
      refine lv_iconst (v := (0 : Int32)) hx hb dX7_best_15 (by decide) ?_
      refine lv_goto (tgt := 20) hx hb dX7_best_16 (by decide) ?_
      refine va_put (D := (dC, dI)) (ci := 7) (v := .int (0 : Int32)) (ty := .int) (C := RX7) (T := TX7) (N := 15) hx hb hts hin7 tyX7 tyX7_ok nmX7 hown hK hP hD hS 0 rfl rfl 7 (by decide) (hw_ hts 1 rfl) (fun _ h9 => h9) rfl (by decide +kernel) rfl rfl (Nat.le_of_ble_eq_true rfl) dX7_best_20 (fun H3 locs hP hD hS => ?_)
      have hP : va_P (dC, dI) vwCl (wMo cI aM (pset M 7 (fun _ => (0 : Int32))) hs) H3 := hP
      have hD : va_D A (wMo cI aM (pset M 7 (fun _ => (0 : Int32))) hs) := hD
      refine lv_aload_n hx hb dX7_best_23 rfl (lv_at hl 0 rfl) ?_
      refine va_get (D := (dC, dI)) (ci := 7) (v := .int (0 : Int32)) (C := RX7) (T := TX7) (N := 15) hx hb hts hin7 hown hK hP 0 rfl rfl 7 (by decide) (hw_ hts 1 rfl) (fun _ h9 => h9) rfl dX7_best_24 ?_
      refine lv_if_le (tgt := 34) hx hb dX7_best_27 (by decide) (fun _ => ?_) (fun q => absurd (by decide) q)
      refine lv_aload_n hx hb dX7_best_34 rfl (lv_at hl 0 rfl) ?_
      refine lv_iload_n hx hb dX7_best_35 rfl (lv_at hl 1 rfl) ?_
      refine lv_iload_n hx hb dX7_best_36 rfl (lv_at hl 2 rfl) ?_
      obtain ⟨r7, u8, hc9, hR⟩ := ob2_e hR
      have hF := va_free (wc := wMo cI aM (pset M 7 (fun _ => (0 : Int32))) hs) hD hS hA [0, 1, 2, 3, 4, 5, 6, 7, 8] rfl
      refine va_calli (va_runV (As := [.int p1, .int p2]) (rest := []) ⟨hx, hb, hml, hown, hts⟩ (met_X7_bestFor l dC dI cI cZ cS aM (pset M 7 (fun _ => (0 : Int32))) hs H3.size p1 p2 (r7, u8) hc9) (cwV 2 hts gX7_best_X7_bestFor rfl rfl rfl (by decide +kernel) ⟨Nat.le_of_ble_eq_true rfl, Nat.le_of_ble_eq_true rfl⟩) (pV (wc := wMo cI aM (pset M 7 (fun _ => (0 : Int32))) hs) (ci := 7) (q0 := 0) hK hP hD hN [0, 1, 2, 3, 4, 5, 6, 7, 8] rfl (by decide) rfl rfl) rfl rfl hl.1 rfl (lv_room (Nat.le_of_ble_eq_true rfl)) dX7_best_37 ⟨Nat.zero_le _, Nat.zero_le _⟩) hS (fun q _ h => hF q h) hF (fun r7 u8 t H4 locs ht hvm hw hB hz1 hk1 hS => ?_)
      try dsimp only at hw hB
      rw [ht] at hB
      cases hw
      have hP := wrk (w2 := wMo cI aM u8 hs) hP hD [0, 1, 2, 3, 4, 5, 6, 7, 8] rfl (by decide) hk1 hB rfl rfl
      have hD := D_addr (w1 := wMo cI aM u8 hs) hD rfl
      exact W.iret (v := r7) hx hb hr (fun t ht hW => ⟨⟨r7, u8, rfl, Option.some.inj hR, P_at ht hP⟩, hS.F ht⟩) hS.2.2 dX7_best_40
abbrev rm_X7_gainNow : Room := { frames := 4, cells := 0, slots := 0, locals := 92 }
abbrev q_X7_gainNow (dC : Nat → ClassId) (dI : Nat → Nat → Nat) (cI cZ cS : ClassId) (aM : Nat → Nat) (hs : Int64) (res : Int32 × Pic) (A : Nat → Prop) : Array Value → State → Outcome → State → Prop := va_Qi (fun (r : Int32) (u : Pic) => (r, u) = res) (fun u t => va_P (dC, dI) vwCl (wMo cI aM u hs) t.heap) A
set_option maxHeartbeats 4000000 in
set_option maxRecDepth 100000 in
theorem met_X7_gainNow (l : Launch) (dC : Nat → ClassId) (dI : Nat → Nat → Nat) (cI cZ cS : ClassId) (aM : Nat → Nat) (M : Pic) (hs : Int64) (sz : Nat) (p1 : Int32) (p2 : Int32) (res : Int32 × Pic) (hR : f7_gainNow M p1 p2 = some res) : Met l yX7_gainNow wsX7_gainNow rm_X7_gainNow (va_Pc [.ref (aM 0), .int p1, .int p2] (pW (dC, dI) (tyS cI cZ cS) (wMo cI aM M hs) sz)) (q_X7_gainNow dC dI cI cZ cS aM hs res (va_A (wMo cI aM M hs) sz)) 0 0 (va_A (wMo cI aM M hs) sz) := by
  refine Met.ofW (cc := cX7_gainNow) (maxL := 5) (ret := (some .int)) (by decide) rfl ?_
  intro p e s m args below meth c s₁ B hml hv
  obtain ⟨rfl, hsz, hP, hK, hD0, hN⟩ := hv
  have hx := B.exec
  have hb := B.bytes
  have hr := B.returns
  have hts := atoms_spec (ws := wsX7_gainNow) B.pre
  have hown : s.vm.findClass RX7 = some m.cls := findClass_of_methodNamed B.named
  have hlocks := B.notSynchronized
  subst hsz
  have hD := hD0.self (sz := s.heap.size)
  generalize hAe : va_A (wMo cI aM M hs) s.heap.size = A at hD ⊢
  have hA : ∀ q : Nat, s.heap.size ≤ q → A q := fun q h => by rw [← hAe]; exact Or.inr h
  have hS : va_S A s.heap s.heap [] := va_S.rf
  have hP : va_P (dC, dI) vwCl (wMo cI aM M hs) s.heap := hP
  rw [f7_gainNow] at hR
  have hl := lv_entry ([.ref (aM 0), .int p1, .int p2]) (n := 5) (Nat.le_of_ble_eq_true rfl)
  rw [lg_entry_eq]
  generalize (lg_sl ([.ref (aM 0), .int p1, .int p2]) ++ List.replicate (5 - (lg_sl ([.ref (aM 0), .int p1, .int p2])).length) Slot.unset).toArray = ls at hl ⊢
  have hl : lv_has ls 5 [(0, .ref (aM 0)), (1, .int p1), (2, .int p2)] := hl
  refine lv_aload_n hx hb dX7_gainNow_0 rfl (lv_at hl 0 rfl) ?_
  obtain ⟨r1, hc2, hR⟩ := ob1_e hR
  refine va_calli (va_runV (As := []) (rest := []) ⟨hx, hb, hml, hown, hts⟩ (met_X7_joyOfAll l dC dI cI cZ cS aM M hs s.heap.size r1 hc2) (cwV 0 hts gX7_gainNow_X7_joyOfAll rfl rfl rfl (by decide +kernel) ⟨Nat.le_of_ble_eq_true rfl, Nat.le_of_ble_eq_true rfl⟩) (pV (wc := wMo cI aM M hs) (ci := 7) (q0 := 0) hK hP hD hN [0, 1, 2, 3, 4, 5, 6, 7, 8] rfl (by decide) rfl rfl) rfl rfl hl.1 rfl (lv_room (Nat.le_of_ble_eq_true rfl)) dX7_gainNow_1 ⟨Nat.zero_le _, Nat.zero_le _⟩) hS (fun q _ h => a0_in hS hA q h) (a0_in hS hA) (fun r1 u t H1 locs ht hvm hw hB hz1 hk1 hS => ?_)
  cases hw
  have hP := rdk hP hk1
  refine lv_istore_n (lv' := [(3, .int r1), (0, .ref (aM 0)), (1, .int p1), (2, .int p2)]) hx hb dX7_gainNow_4 rfl hl (by decide) rfl (fun ls hl => ?_)
  refine lv_aload_n hx hb dX7_gainNow_5 rfl (lv_at hl 1 rfl) ?_
  refine lv_iload_n hx hb dX7_gainNow_6 rfl (lv_at hl 2 rfl) ?_
  refine lv_aload_n hx hb dX7_gainNow_7 rfl (lv_at hl 1 rfl) ?_
  refine lv_iload_n hx hb dX7_gainNow_8 rfl (lv_at hl 3 rfl) ?_
  refine lv_iconst (v := (0 : Int32)) hx hb dX7_gainNow_9 (by decide) ?_
  obtain ⟨r3, hc4, hR⟩ := ob1_e hR
  refine va_calli (va_runV (As := [.int p2, .int (0 : Int32)]) (rest := [.int p1, .ref (aM 0)]) ⟨hx, hb, hml, hown, hts⟩ (met_X7_of l dC dI cI cZ cS aM M hs H1.size p2 (0 : Int32) r3 hc4) (cwV 2 hts gX7_gainNow_X7_of rfl rfl rfl (by decide +kernel) ⟨Nat.le_of_ble_eq_true rfl, Nat.le_of_ble_eq_true rfl⟩) (pV (wc := wMo cI aM M hs) (ci := 7) (q0 := 0) hK hP hD hN [0, 1, 2, 3, 4, 5, 6, 7, 8] rfl (by decide) rfl rfl) rfl rfl hl.1 rfl (lv_room (Nat.le_of_ble_eq_true rfl)) dX7_gainNow_10 ⟨Nat.zero_le _, Nat.zero_le _⟩) hS (fun q _ h => a0_in hS hA q h) (a0_in hS hA) (fun r3 u t H2 locs ht hvm hw hB hz1 hk1 hS => ?_)
  cases hw
  have hP := rdk hP hk1
  refine lv_iload_n hx hb dX7_gainNow_13 rfl (lv_at hl 3 rfl) ?_
  obtain ⟨u5, hc6, hR⟩ := ob1_e hR
  have hF := va_free (wc := wMo cI aM M hs) hD hS hA [0, 1, 2, 3, 4, 5, 6, 7, 8] rfl
  refine va_callv (va_runV (As := [.int p1, .int r3, .int p2]) (rest := []) ⟨hx, hb, hml, hown, hts⟩ (met_X7_put l dC dI cI cZ cS aM M hs H2.size p1 r3 p2 u5 hc6) (cwV 3 hts gX7_gainNow_X7_put rfl rfl rfl (by decide +kernel) ⟨Nat.le_of_ble_eq_true rfl, Nat.le_of_ble_eq_true rfl⟩) (pV (wc := wMo cI aM M hs) (ci := 7) (q0 := 0) hK hP hD hN [0, 1, 2, 3, 4, 5, 6, 7, 8] rfl (by decide) rfl rfl) rfl rfl hl.1 rfl (lv_room (Nat.le_of_ble_eq_true rfl)) dX7_gainNow_14 ⟨Nat.zero_le _, Nat.zero_le _⟩) hS (fun q _ h => hF q h) hF (fun  u5 t H3 locs ht hvm hw hB hz1 hk1 hS => ?_)
  try dsimp only at hw hB
  rw [ht] at hB
  cases hw
  have hP := wrk (w2 := wMo cI aM u5 hs) hP hD [0, 1, 2, 3, 4, 5, 6, 7, 8] rfl (by decide) hk1 hB rfl rfl
  have hD := D_addr (w1 := wMo cI aM u5 hs) hD rfl
  refine lv_aload_n hx hb dX7_gainNow_17 rfl (lv_at hl 1 rfl) ?_
  obtain ⟨r7, hc8, hR⟩ := ob1_e hR
  refine va_calli (va_runV (As := []) (rest := []) ⟨hx, hb, hml, hown, hts⟩ (met_X7_joyOfAll l dC dI cI cZ cS aM u5 hs H3.size r7 hc8) (cwV 0 hts gX7_gainNow_X7_joyOfAll rfl rfl rfl (by decide +kernel) ⟨Nat.le_of_ble_eq_true rfl, Nat.le_of_ble_eq_true rfl⟩) (pV (wc := wMo cI aM u5 hs) (ci := 7) (q0 := 0) hK hP hD hN [0, 1, 2, 3, 4, 5, 6, 7, 8] rfl (by decide) rfl rfl) rfl rfl hl.1 rfl (lv_room (Nat.le_of_ble_eq_true rfl)) dX7_gainNow_18 ⟨Nat.zero_le _, Nat.zero_le _⟩) hS (fun q _ h => a0_in hS hA q h) (a0_in hS hA) (fun r7 u t H4 locs ht hvm hw hB hz1 hk1 hS => ?_)
  cases hw
  have hP := rdk hP hk1
  refine lv_istore (lv' := [(4, .int r7), (3, .int r1), (0, .ref (aM 0)), (1, .int p1), (2, .int p2)]) hx hb dX7_gainNow_21 hl (by decide) rfl (fun ls hl => ?_)
  refine lv_aload_n hx hb dX7_gainNow_23 rfl (lv_at hl 2 rfl) ?_
  refine lv_iload_n hx hb dX7_gainNow_24 rfl (lv_at hl 3 rfl) ?_
  refine lv_aload_n hx hb dX7_gainNow_25 rfl (lv_at hl 2 rfl) ?_
  refine lv_iload_n hx hb dX7_gainNow_26 rfl (lv_at hl 4 rfl) ?_
  refine lv_iconst (v := (0 : Int32)) hx hb dX7_gainNow_27 (by decide) ?_
  obtain ⟨r9, hc10, hR⟩ := ob1_e hR
  refine va_calli (va_runV (As := [.int p2, .int (0 : Int32)]) (rest := [.int p1, .ref (aM 0)]) ⟨hx, hb, hml, hown, hts⟩ (met_X7_of l dC dI cI cZ cS aM u5 hs H4.size p2 (0 : Int32) r9 hc10) (cwV 2 hts gX7_gainNow_X7_of rfl rfl rfl (by decide +kernel) ⟨Nat.le_of_ble_eq_true rfl, Nat.le_of_ble_eq_true rfl⟩) (pV (wc := wMo cI aM u5 hs) (ci := 7) (q0 := 0) hK hP hD hN [0, 1, 2, 3, 4, 5, 6, 7, 8] rfl (by decide) rfl rfl) rfl rfl hl.1 rfl (lv_room (Nat.le_of_ble_eq_true rfl)) dX7_gainNow_28 ⟨Nat.zero_le _, Nat.zero_le _⟩) hS (fun q _ h => a0_in hS hA q h) (a0_in hS hA) (fun r9 u t H5 locs ht hvm hw hB hz1 hk1 hS => ?_)
  cases hw
  have hP := rdk hP hk1
  refine lv_iconst (v := (-1 : Int32)) hx hb dX7_gainNow_31 (by decide) ?_
  obtain ⟨u11, hc12, hR⟩ := ob1_e hR
  have hF := va_free (wc := wMo cI aM u5 hs) hD hS hA [0, 1, 2, 3, 4, 5, 6, 7, 8] rfl
  refine va_callv (va_runV (As := [.int p1, .int r9, .int (-1 : Int32)]) (rest := []) ⟨hx, hb, hml, hown, hts⟩ (met_X7_put l dC dI cI cZ cS aM u5 hs H5.size p1 r9 (-1 : Int32) u11 hc12) (cwV 3 hts gX7_gainNow_X7_put rfl rfl rfl (by decide +kernel) ⟨Nat.le_of_ble_eq_true rfl, Nat.le_of_ble_eq_true rfl⟩) (pV (wc := wMo cI aM u5 hs) (ci := 7) (q0 := 0) hK hP hD hN [0, 1, 2, 3, 4, 5, 6, 7, 8] rfl (by decide) rfl rfl) rfl rfl hl.1 rfl (lv_room (Nat.le_of_ble_eq_true rfl)) dX7_gainNow_32 ⟨Nat.zero_le _, Nat.zero_le _⟩) hS (fun q _ h => hF q h) hF (fun  u11 t H6 locs ht hvm hw hB hz1 hk1 hS => ?_)
  try dsimp only at hw hB
  rw [ht] at hB
  cases hw
  have hP := wrk (w2 := wMo cI aM u11 hs) hP hD [0, 1, 2, 3, 4, 5, 6, 7, 8] rfl (by decide) hk1 hB rfl rfl
  have hD := D_addr (w1 := wMo cI aM u11 hs) hD rfl
  refine lv_iload hx hb dX7_gainNow_35 (lv_at hl 0 rfl) ?_
  refine lv_iload_n hx hb dX7_gainNow_37 rfl (lv_at hl 1 rfl) ?_
  refine lv_isub hx hb dX7_gainNow_38 ?_
  exact W.iret (v := (r7 - r1)) hx hb hr (fun t ht hW => ⟨⟨(r7 - r1), u11, rfl, Option.some.inj hR, P_at ht hP⟩, hS.F ht⟩) hS.2.2 dX7_gainNow_39
abbrev rm_X7_gain : Room := { frames := 8, cells := 0, slots := 0, locals := 184 }
abbrev q_X7_gain (dC : Nat → ClassId) (dI : Nat → Nat → Nat) (cI cZ cS : ClassId) (aM : Nat → Nat) (hs : Int64) (res : Int32 × Pic) (A : Nat → Prop) : Array Value → State → Outcome → State → Prop := va_Qi (fun (r : Int32) (u : Pic) => (r, u) = res) (fun u t => va_P (dC, dI) vwCl (wMo cI aM u hs) t.heap) A
set_option maxHeartbeats 4000000 in
set_option maxRecDepth 100000 in
theorem met_X7_gain (l : Launch) (dC : Nat → ClassId) (dI : Nat → Nat → Nat) (cI cZ cS : ClassId) (aM : Nat → Nat) (M : Pic) (hs : Int64) (sz : Nat) (p1 : Int32) (p2 : Int32) (res : Int32 × Pic) (hR : f7_gain M p1 p2 = some res) : Met l yX7_gain wsX7_gain rm_X7_gain (va_Pc [.ref (aM 0), .int p1, .int p2] (pW (dC, dI) (tyS cI cZ cS) (wMo cI aM M hs) sz)) (q_X7_gain dC dI cI cZ cS aM hs res (va_A (wMo cI aM M hs) sz)) 0 0 (va_A (wMo cI aM M hs) sz) := by
  refine Met.ofW (cc := cX7_gain) (maxL := 3) (ret := (some .int)) (by decide) rfl ?_
  intro p e s m args below meth c s₁ B hml hv
  obtain ⟨rfl, hsz, hP, hK, hD0, hN⟩ := hv
  have hx := B.exec
  have hb := B.bytes
  have hr := B.returns
  have hts := atoms_spec (ws := wsX7_gain) B.pre
  have hown : s.vm.findClass RX7 = some m.cls := findClass_of_methodNamed B.named
  have hlocks := B.notSynchronized
  subst hsz
  have hD := hD0.self (sz := s.heap.size)
  generalize hAe : va_A (wMo cI aM M hs) s.heap.size = A at hD ⊢
  have hA : ∀ q : Nat, s.heap.size ≤ q → A q := fun q h => by rw [← hAe]; exact Or.inr h
  have hS : va_S A s.heap s.heap [] := va_S.rf
  have hP : va_P (dC, dI) vwCl (wMo cI aM M hs) s.heap := hP
  rw [f7_gain] at hR
  have hin7 : ∀ w ∈ wsX70, w ∈ wsX7_gain := by decide +kernel
  have hl := lv_entry ([.ref (aM 0), .int p1, .int p2]) (n := 3) (Nat.le_of_ble_eq_true rfl)
  rw [lg_entry_eq]
  generalize (lg_sl ([.ref (aM 0), .int p1, .int p2]) ++ List.replicate (3 - (lg_sl ([.ref (aM 0), .int p1, .int p2])).length) Slot.unset).toArray = ls at hl ⊢
  have hl : lv_has ls 3 [(0, .ref (aM 0)), (1, .int p1), (2, .int p2)] := hl
  refine lv_aload_n hx hb dX7_gain_0 rfl (lv_at hl 0 rfl) ?_
  refine lv_iload_n hx hb dX7_gain_1 rfl (lv_at hl 1 rfl) ?_
  refine va_calli (va_runS (As := [.int p1]) (rest := [.ref (aM 0)]) ⟨hx, hb, hml, hown, hts⟩ (met_X7_isDay l dC dI cI cZ cS s.heap.size p1) (va_cwS 1 hts gX7_gain_X7_isDay rfl rfl rfl (by decide +kernel) ⟨Nat.le_of_ble_eq_true rfl, Nat.le_of_ble_eq_true rfl⟩) (pS (wc := []) hK hP hD hN [] rfl (by decide)) rfl rfl hl.1 rfl (lv_room (Nat.le_of_ble_eq_true rfl)) dX7_gain_2 ⟨Nat.zero_le _, Nat.zero_le _⟩) hS (fun q _ h => a0_in hS hA q h) (a0_in hS hA) (fun r1 u t H1 locs ht hvm hw hB hz1 hk1 hS => ?_)
  obtain ⟨hw, nb2⟩ := hw
  subst hw
  have hP := rdk hP hk1
  refine lv_if_eq (tgt := 20) hx hb dX7_gain_5 (by decide) (fun c_3 => ?_) (fun c_3 => ?_)
  · rw [if_pos c_3] at hR
    refine lv_iconst (v := (1 : Int32)) hx hb dX7_gain_20 (by decide) ?_
    refine va_put (D := (dC, dI)) (ci := 7) (v := .int (1 : Int32)) (ty := .int) (C := RX7) (T := TX7) (N := 15) hx hb hts hin7 tyX7 tyX7_ok nmX7 hown hK hP hD hS 0 rfl rfl 7 (by decide) (hw_ hts 1 rfl) (fun _ h9 => h9) rfl (by decide +kernel) rfl rfl (Nat.le_of_ble_eq_true rfl) dX7_gain_21 (fun H2 locs hP hD hS => ?_)
    have hP : va_P (dC, dI) vwCl (wMo cI aM (pset M 7 (fun _ => (1 : Int32))) hs) H2 := hP
    have hD : va_D A (wMo cI aM (pset M 7 (fun _ => (1 : Int32))) hs) := hD
    refine lv_aload_n hx hb dX7_gain_24 rfl (lv_at hl 0 rfl) ?_
    refine va_get (D := (dC, dI)) (ci := 7) (v := .int (1 : Int32)) (C := RX7) (T := TX7) (N := 15) hx hb hts hin7 hown hK hP 0 rfl rfl 7 (by decide) (hw_ hts 1 rfl) (fun _ h9 => h9) rfl dX7_gain_25 ?_
    refine lv_if_gt (tgt := 40) hx hb dX7_gain_28 (by decide) (fun _ => ?_) (fun q => absurd (by decide) q)
    refine lv_iconst (v := (0 : Int32)) hx hb dX7_gain_40 (by decide) ?_
    refine lv_goto (tgt := 50) hx hb dX7_gain_41 (by decide) ?_
    exact W.iret (v := (0 : Int32)) hx hb hr (fun t ht hW => ⟨⟨(0 : Int32), (pset M 7 (fun _ => (1 : Int32))), rfl, Option.some.inj hR, P_at ht hP⟩, hS.F ht⟩) hS.2.2 dX7_gain_50
  · rw [if_neg c_3] at hR
    refine lv_aload_n hx hb dX7_gain_8 rfl (lv_at hl 0 rfl) ?_
    refine lv_iload_n hx hb dX7_gain_9 rfl (lv_at hl 2 rfl) ?_
    refine va_calli (va_runV (As := [.int p2]) (rest := [.ref (aM 0)]) ⟨hx, hb, hml, hown, hts⟩ (met_X7_isDish l dC dI cI cZ cS aM M hs H1.size p2) (cwV 1 hts gX7_gain_X7_isDish rfl rfl rfl (by decide +kernel) ⟨Nat.le_of_ble_eq_true rfl, Nat.le_of_ble_eq_true rfl⟩) (pV (wc := wMo cI aM M hs) (ci := 7) (q0 := 0) hK hP hD hN [0, 1, 2, 3, 4, 5, 6, 7, 8] rfl (by decide) rfl rfl) rfl rfl hl.1 rfl (lv_room (Nat.le_of_ble_eq_true rfl)) dX7_gain_10 ⟨Nat.zero_le _, Nat.zero_le _⟩) hS (fun q _ h => a0_in hS hA q h) (a0_in hS hA) (fun r4 u t H2 locs ht hvm hw hB hz1 hk1 hS => ?_)
    obtain ⟨hw, nb5⟩ := hw
    subst hw
    have hP := rdk hP hk1
    refine lv_if_eq (tgt := 20) hx hb dX7_gain_13 (by decide) (fun c_6 => ?_) (fun c_6 => ?_)
    · rw [if_pos c_6] at hR
      refine lv_iconst (v := (1 : Int32)) hx hb dX7_gain_20 (by decide) ?_
      refine va_put (D := (dC, dI)) (ci := 7) (v := .int (1 : Int32)) (ty := .int) (C := RX7) (T := TX7) (N := 15) hx hb hts hin7 tyX7 tyX7_ok nmX7 hown hK hP hD hS 0 rfl rfl 7 (by decide) (hw_ hts 1 rfl) (fun _ h9 => h9) rfl (by decide +kernel) rfl rfl (Nat.le_of_ble_eq_true rfl) dX7_gain_21 (fun H3 locs hP hD hS => ?_)
      have hP : va_P (dC, dI) vwCl (wMo cI aM (pset M 7 (fun _ => (1 : Int32))) hs) H3 := hP
      have hD : va_D A (wMo cI aM (pset M 7 (fun _ => (1 : Int32))) hs) := hD
      refine lv_aload_n hx hb dX7_gain_24 rfl (lv_at hl 0 rfl) ?_
      refine va_get (D := (dC, dI)) (ci := 7) (v := .int (1 : Int32)) (C := RX7) (T := TX7) (N := 15) hx hb hts hin7 hown hK hP 0 rfl rfl 7 (by decide) (hw_ hts 1 rfl) (fun _ h9 => h9) rfl dX7_gain_25 ?_
      refine lv_if_gt (tgt := 40) hx hb dX7_gain_28 (by decide) (fun _ => ?_) (fun q => absurd (by decide) q)
      refine lv_iconst (v := (0 : Int32)) hx hb dX7_gain_40 (by decide) ?_
      refine lv_goto (tgt := 50) hx hb dX7_gain_41 (by decide) ?_
      exact W.iret (v := (0 : Int32)) hx hb hr (fun t ht hW => ⟨⟨(0 : Int32), (pset M 7 (fun _ => (1 : Int32))), rfl, Option.some.inj hR, P_at ht hP⟩, hS.F ht⟩) hS.2.2 dX7_gain_50
    · rw [if_neg c_6] at hR
      refine lv_iconst (v := (0 : Int32)) hx hb dX7_gain_16 (by decide) ?_
      refine lv_goto (tgt := 21) hx hb dX7_gain_17 (by decide) ?_
      refine va_put (D := (dC, dI)) (ci := 7) (v := .int (0 : Int32)) (ty := .int) (C := RX7) (T := TX7) (N := 15) hx hb hts hin7 tyX7 tyX7_ok nmX7 hown hK hP hD hS 0 rfl rfl 7 (by decide) (hw_ hts 1 rfl) (fun _ h9 => h9) rfl (by decide +kernel) rfl rfl (Nat.le_of_ble_eq_true rfl) dX7_gain_21 (fun H3 locs hP hD hS => ?_)
      have hP : va_P (dC, dI) vwCl (wMo cI aM (pset M 7 (fun _ => (0 : Int32))) hs) H3 := hP
      have hD : va_D A (wMo cI aM (pset M 7 (fun _ => (0 : Int32))) hs) := hD
      refine lv_aload_n hx hb dX7_gain_24 rfl (lv_at hl 0 rfl) ?_
      refine va_get (D := (dC, dI)) (ci := 7) (v := .int (0 : Int32)) (C := RX7) (T := TX7) (N := 15) hx hb hts hin7 hown hK hP 0 rfl rfl 7 (by decide) (hw_ hts 1 rfl) (fun _ h9 => h9) rfl dX7_gain_25 ?_
      refine lv_if_gt (tgt := 40) hx hb dX7_gain_28 (by decide) (fun q => absurd q (by decide)) (fun _ => ?_)
      refine lv_aload_n hx hb dX7_gain_31 rfl (lv_at hl 0 rfl) ?_
      refine lv_iload_n hx hb dX7_gain_32 rfl (lv_at hl 1 rfl) ?_
      refine lv_iload_n hx hb dX7_gain_33 rfl (lv_at hl 2 rfl) ?_
      obtain ⟨r7, u8, hc9, hR⟩ := ob2_e hR
      have hF := va_free (wc := wMo cI aM (pset M 7 (fun _ => (0 : Int32))) hs) hD hS hA [0, 1, 2, 3, 4, 5, 6, 7, 8] rfl
      refine va_calli (va_runV (As := [.int p1, .int p2]) (rest := []) ⟨hx, hb, hml, hown, hts⟩ (met_X7_canServe l dC dI cI cZ cS aM (pset M 7 (fun _ => (0 : Int32))) hs H3.size p1 p2 (r7, u8) hc9) (cwV 2 hts gX7_gain_X7_canServe rfl rfl rfl (by decide +kernel) ⟨Nat.le_of_ble_eq_true rfl, Nat.le_of_ble_eq_true rfl⟩) (pV (wc := wMo cI aM (pset M 7 (fun _ => (0 : Int32))) hs) (ci := 7) (q0 := 0) hK hP hD hN [0, 1, 2, 3, 4, 5, 6, 7, 8] rfl (by decide) rfl rfl) rfl rfl hl.1 rfl (lv_room (Nat.le_of_ble_eq_true rfl)) dX7_gain_34 ⟨Nat.zero_le _, Nat.zero_le _⟩) hS (fun q _ h => hF q h) hF (fun r7 u8 t H4 locs ht hvm hw hB hz1 hk1 hS => ?_)
      obtain ⟨hw, nb10⟩ := hw
      try dsimp only at hw hB
      rw [ht] at hB
      cases hw
      have hP := wrk (w2 := wMo cI aM u8 hs) hP hD [0, 1, 2, 3, 4, 5, 6, 7, 8] rfl (by decide) hk1 hB rfl rfl
      have hD := D_addr (w1 := wMo cI aM u8 hs) hD rfl
      refine lv_if_ne (tgt := 44) hx hb dX7_gain_37 (by decide) (fun c_11 => ?_) (fun c_11 => ?_)
      · rw [if_neg c_11] at hR
        refine lv_aload_n hx hb dX7_gain_44 rfl (lv_at hl 0 rfl) ?_
        refine lv_iload_n hx hb dX7_gain_45 rfl (lv_at hl 1 rfl) ?_
        refine lv_iload_n hx hb dX7_gain_46 rfl (lv_at hl 2 rfl) ?_
        obtain ⟨r12, u13, hc14, hR⟩ := ob2_e hR
        have hF := va_free (wc := wMo cI aM u8 hs) hD hS hA [0, 1, 2, 3, 4, 5, 6, 7, 8] rfl
        refine va_calli (va_runV (As := [.int p1, .int p2]) (rest := []) ⟨hx, hb, hml, hown, hts⟩ (met_X7_gainNow l dC dI cI cZ cS aM u8 hs H4.size p1 p2 (r12, u13) hc14) (cwV 2 hts gX7_gain_X7_gainNow rfl rfl rfl (by decide +kernel) ⟨Nat.le_of_ble_eq_true rfl, Nat.le_of_ble_eq_true rfl⟩) (pV (wc := wMo cI aM u8 hs) (ci := 7) (q0 := 0) hK hP hD hN [0, 1, 2, 3, 4, 5, 6, 7, 8] rfl (by decide) rfl rfl) rfl rfl hl.1 rfl (lv_room (Nat.le_of_ble_eq_true rfl)) dX7_gain_47 ⟨Nat.zero_le _, Nat.zero_le _⟩) hS (fun q _ h => hF q h) hF (fun r12 u13 t H5 locs ht hvm hw hB hz1 hk1 hS => ?_)
        try dsimp only at hw hB
        rw [ht] at hB
        cases hw
        have hP := wrk (w2 := wMo cI aM u13 hs) hP hD [0, 1, 2, 3, 4, 5, 6, 7, 8] rfl (by decide) hk1 hB rfl rfl
        have hD := D_addr (w1 := wMo cI aM u13 hs) hD rfl
        exact W.iret (v := r12) hx hb hr (fun t ht hW => ⟨⟨r12, u13, rfl, Option.some.inj hR, P_at ht hP⟩, hS.F ht⟩) hS.2.2 dX7_gain_50
      · rw [if_pos c_11] at hR
        refine lv_iconst (v := (0 : Int32)) hx hb dX7_gain_40 (by decide) ?_
        refine lv_goto (tgt := 50) hx hb dX7_gain_41 (by decide) ?_
        exact W.iret (v := (0 : Int32)) hx hb hr (fun t ht hW => ⟨⟨(0 : Int32), u8, rfl, Option.some.inj hR, P_at ht hP⟩, hS.F ht⟩) hS.2.2 dX7_gain_50
abbrev rm_X7_dayFor : Room := { frames := 8, cells := 0, slots := 0, locals := 184 }
abbrev q_X7_dayFor (dC : Nat → ClassId) (dI : Nat → Nat → Nat) (cI cZ cS : ClassId) (aM : Nat → Nat) (hs : Int64) (res : Int32 × Pic) (A : Nat → Prop) : Array Value → State → Outcome → State → Prop := va_Qi (fun (r : Int32) (u : Pic) => (r, u) = res) (fun u t => va_P (dC, dI) vwCl (wMo cI aM u hs) t.heap) A
set_option maxHeartbeats 4000000 in
set_option maxRecDepth 100000 in
theorem met_X7_dayFor (l : Launch) (dC : Nat → ClassId) (dI : Nat → Nat → Nat) (cI cZ cS : ClassId) (aM : Nat → Nat) (M : Pic) (hs : Int64) (sz : Nat) (p1 : Int32) (res : Int32 × Pic) (hR : f7_dayFor M p1 = some res) : Met l yX7_dayFor wsX7_dayFor rm_X7_dayFor (va_Pc [.ref (aM 0), .int p1] (pW (dC, dI) (tyS cI cZ cS) (wMo cI aM M hs) sz)) (q_X7_dayFor dC dI cI cZ cS aM hs res (va_A (wMo cI aM M hs) sz)) 0 0 (va_A (wMo cI aM M hs) sz) := by
  refine Met.ofW (cc := cX7_dayFor) (maxL := 7) (ret := (some .int)) (by decide) rfl ?_
  intro p e s m args below meth c s₁ B hml hv
  obtain ⟨rfl, hsz, hP, hK, hD0, hN⟩ := hv
  have hx := B.exec
  have hb := B.bytes
  have hr := B.returns
  have hts := atoms_spec (ws := wsX7_dayFor) B.pre
  have hown : s.vm.findClass RX7 = some m.cls := findClass_of_methodNamed B.named
  have hlocks := B.notSynchronized
  subst hsz
  have hD := hD0.self (sz := s.heap.size)
  generalize hAe : va_A (wMo cI aM M hs) s.heap.size = A at hD ⊢
  have hA : ∀ q : Nat, s.heap.size ≤ q → A q := fun q h => by rw [← hAe]; exact Or.inr h
  have hS : va_S A s.heap s.heap [] := va_S.rf
  have hP : va_P (dC, dI) vwCl (wMo cI aM M hs) s.heap := hP
  rw [f7_dayFor] at hR
  have hl := lv_entry ([.ref (aM 0), .int p1]) (n := 7) (Nat.le_of_ble_eq_true rfl)
  rw [lg_entry_eq]
  generalize (lg_sl ([.ref (aM 0), .int p1]) ++ List.replicate (7 - (lg_sl ([.ref (aM 0), .int p1])).length) Slot.unset).toArray = ls at hl ⊢
  have hl : lv_has ls 7 [(0, .ref (aM 0)), (1, .int p1)] := hl
  refine lv_iconst (v := (-1 : Int32)) hx hb dX7_dayFor_0 (by decide) ?_
  refine lv_istore_n (lv' := [(2, .int (-1 : Int32)), (0, .ref (aM 0)), (1, .int p1)]) hx hb dX7_dayFor_1 rfl hl (by decide) rfl (fun ls hl => ?_)
  refine lv_iconst (v := (0 : Int32)) hx hb dX7_dayFor_2 (by decide) ?_
  refine lv_istore_n (lv' := [(3, .int (0 : Int32)), (2, .int (-1 : Int32)), (0, .ref (aM 0)), (1, .int p1)]) hx hb dX7_dayFor_3 rfl hl (by decide) rfl (fun ls hl => ?_)
  refine lv_iconst (v := (0 : Int32)) hx hb dX7_dayFor_4 (by decide) ?_
  refine lv_istore (lv' := [(4, .int (0 : Int32)), (3, .int (0 : Int32)), (2, .int (-1 : Int32)), (0, .ref (aM 0)), (1, .int p1)]) hx hb dX7_dayFor_5 hl (by decide) rfl (fun ls hl => ?_)
  have LOOP7 : ∀ (k : Int32 → Pic → (Option (Int32 × Pic))), (∀ (x2_7 : Int32) (M_7 : Pic) (H1 : Heap) (locs : List Loc), k x2_7 M_7 = some res → va_P (dC, dI) vwCl (wMo cI aM M_7 hs) H1 → va_D A (wMo cI aM M_7 hs) → va_S A s.heap H1 locs → ∀ (ls : Array Slot), lv_has ls 7 [(2, .int x2_7)] → W p l e (headSpec wsX7_dayFor rm_X7_dayFor).room s m ([.ref (aM 0), .int p1] : List Value).toArray below meth c H1 locs 0 0 (MQ below (q_X7_dayFor dC dI cI cZ cS aM hs res A) ([.ref (aM 0), .int p1] : List Value).toArray s 0 0 A) (F0 m 81 ls [])) → ∀ (nf : Nat) (x2_7 : Int32) (x3_7 : Int32) (x4_7 : Int32) (M_7 : Pic) (H1 : Heap) (locs : List Loc), ((28 : Int32)).toInt - (x4_7).toInt ≤ (nf : Int) → f7_dayFor_L7 p1 nf x2_7 x3_7 x4_7 M_7 k = some res → va_P (dC, dI) vwCl (wMo cI aM M_7 hs) H1 → va_D A (wMo cI aM M_7 hs) → va_S A s.heap H1 locs → ∀ (ls : Array Slot), lv_has ls 7 [(2, .int x2_7), (3, .int x3_7), (4, .int x4_7), (0, .ref (aM 0)), (1, .int p1)] → W p l e (headSpec wsX7_dayFor rm_X7_dayFor).room s m ([.ref (aM 0), .int p1] : List Value).toArray below meth c H1 locs 0 0 (MQ below (q_X7_dayFor dC dI cI cZ cS aM hs res A) ([.ref (aM 0), .int p1] : List Value).toArray s 0 0 A) (F0 m 7 ls []) := by
    intro k hk nf
    induction nf with
    | zero =>
      intro x2_7 x3_7 x4_7 M_7 H1 locs hfu hR hP hD hS ls hl
      rw [f7_dayFor_L7] at hR
      refine lv_iload hx hb dX7_dayFor_7 (lv_at hl 2 rfl) ?_
      refine lv_bipush (v := (28 : Int32)) hx hb dX7_dayFor_9 (by decide) ?_
      refine lv_icmp_ge (tgt := 81) hx hb dX7_dayFor_11 (by decide) (fun c_1 => ?_) (fun c_1 => ?_)
      · skip
        exact hk x2_7 M_7 _ _  hR hP hD hS ls (lv_sub hl [0] rfl)
      · exact (fuel0 hfu c_1).elim
    | succ nf ih =>
      intro x2_7 x3_7 x4_7 M_7 H1 locs hfu hR hP hD hS ls hl
      rw [f7_dayFor_L7] at hR
      refine lv_iload hx hb dX7_dayFor_7 (lv_at hl 2 rfl) ?_
      refine lv_bipush (v := (28 : Int32)) hx hb dX7_dayFor_9 (by decide) ?_
      refine lv_icmp_ge (tgt := 81) hx hb dX7_dayFor_11 (by decide) (fun c_2 => ?_) (fun c_2 => ?_)
      · rw [if_pos c_2] at hR
        exact hk x2_7 M_7 _ _  hR hP hD hS ls (lv_sub hl [0] rfl)
      · rw [if_neg c_2] at hR
        have hfu := fuelS hfu c_2
        refine lv_aload_n hx hb dX7_dayFor_14 rfl (lv_at hl 3 rfl) ?_
        refine lv_iload hx hb dX7_dayFor_15 (lv_at hl 2 rfl) ?_
        refine lv_iload_n hx hb dX7_dayFor_17 rfl (lv_at hl 4 rfl) ?_
        obtain ⟨r3, u4, hc5, hR⟩ := ob2_e hR
        have hF := va_free (wc := wMo cI aM M_7 hs) hD hS hA [0, 1, 2, 3, 4, 5, 6, 7, 8] rfl
        refine va_calli (va_runV (As := [.int x4_7, .int p1]) (rest := []) ⟨hx, hb, hml, hown, hts⟩ (met_X7_canServe l dC dI cI cZ cS aM M_7 hs H1.size x4_7 p1 (r3, u4) hc5) (cwV 2 hts gX7_dayFor_X7_canServe rfl rfl rfl (by decide +kernel) ⟨Nat.le_of_ble_eq_true rfl, Nat.le_of_ble_eq_true rfl⟩) (pV (wc := wMo cI aM M_7 hs) (ci := 7) (q0 := 0) hK hP hD hN [0, 1, 2, 3, 4, 5, 6, 7, 8] rfl (by decide) rfl rfl) rfl rfl hl.1 rfl (lv_room (Nat.le_of_ble_eq_true rfl)) dX7_dayFor_18 ⟨Nat.zero_le _, Nat.zero_le _⟩) hS (fun q _ h => hF q h) hF (fun r3 u4 t H2 locs ht hvm hw hB hz1 hk1 hS => ?_)
        obtain ⟨hw, nb6⟩ := hw
        try dsimp only at hw hB
        rw [ht] at hB
        cases hw
        have hP := wrk (w2 := wMo cI aM u4 hs) hP hD [0, 1, 2, 3, 4, 5, 6, 7, 8] rfl (by decide) hk1 hB rfl rfl
        have hD := D_addr (w1 := wMo cI aM u4 hs) hD rfl
        refine lv_if_eq (tgt := 75) hx hb dX7_dayFor_21 (by decide) (fun c_7 => ?_) (fun c_7 => ?_)
        · rw [if_pos c_7] at hR
          refine lv_iinc (v := (x4_7 + 1)) (lv' := [(4, .int (x4_7 + 1)), (2, .int x2_7), (3, .int x3_7), (0, .ref (aM 0)), (1, .int p1)]) hx hb dX7_dayFor_75 hl (k := 2) rfl rfl (by decide) rfl (fun ls hl => ?_)
          refine lv_goto (tgt := 7) hx hb dX7_dayFor_78 (by decide) ?_
          exact ih x2_7 x3_7 (x4_7 + 1) u4 _ _ hfu hR hP hD hS ls (lv_sub hl [1, 2, 0, 3, 4] rfl)
        · rw [if_neg c_7] at hR
          refine lv_aload_n hx hb dX7_dayFor_24 rfl (lv_at hl 3 rfl) ?_
          refine lv_iload hx hb dX7_dayFor_25 (lv_at hl 2 rfl) ?_
          refine lv_iload_n hx hb dX7_dayFor_27 rfl (lv_at hl 4 rfl) ?_
          obtain ⟨r8, u9, hc10, hR⟩ := ob2_e hR
          have hF := va_free (wc := wMo cI aM u4 hs) hD hS hA [0, 1, 2, 3, 4, 5, 6, 7, 8] rfl
          refine va_calli (va_runV (As := [.int x4_7, .int p1]) (rest := []) ⟨hx, hb, hml, hown, hts⟩ (met_X7_gainNow l dC dI cI cZ cS aM u4 hs H2.size x4_7 p1 (r8, u9) hc10) (cwV 2 hts gX7_dayFor_X7_gainNow rfl rfl rfl (by decide +kernel) ⟨Nat.le_of_ble_eq_true rfl, Nat.le_of_ble_eq_true rfl⟩) (pV (wc := wMo cI aM u4 hs) (ci := 7) (q0 := 0) hK hP hD hN [0, 1, 2, 3, 4, 5, 6, 7, 8] rfl (by decide) rfl rfl) rfl rfl hl.1 rfl (lv_room (Nat.le_of_ble_eq_true rfl)) dX7_dayFor_28 ⟨Nat.zero_le _, Nat.zero_le _⟩) hS (fun q _ h => hF q h) hF (fun r8 u9 t H3 locs ht hvm hw hB hz1 hk1 hS => ?_)
          try dsimp only at hw hB
          rw [ht] at hB
          cases hw
          have hP := wrk (w2 := wMo cI aM u9 hs) hP hD [0, 1, 2, 3, 4, 5, 6, 7, 8] rfl (by decide) hk1 hB rfl rfl
          have hD := D_addr (w1 := wMo cI aM u9 hs) hD rfl
          refine lv_istore (lv' := [(5, .int r8), (2, .int x2_7), (3, .int x3_7), (4, .int x4_7), (0, .ref (aM 0)), (1, .int p1)]) hx hb dX7_dayFor_31 hl (by decide) rfl (fun ls hl => ?_)
          refine lv_iload_n hx hb dX7_dayFor_33 rfl (lv_at hl 1 rfl) ?_
          refine lv_iconst (v := (-1 : Int32)) hx hb dX7_dayFor_34 (by decide) ?_
          refine lv_icmp_eq (tgt := 44) hx hb dX7_dayFor_35 (by decide) (fun c_11 => ?_) (fun c_11 => ?_)
          · rw [if_pos c_11] at hR
            refine lv_iconst (v := (1 : Int32)) hx hb dX7_dayFor_44 (by decide) ?_
            refine lv_goto (tgt := 49) hx hb dX7_dayFor_45 (by decide) ?_
            refine lv_istore (lv' := [(6, .int (1 : Int32)), (5, .int r8), (2, .int x2_7), (3, .int x3_7), (4, .int x4_7), (0, .ref (aM 0)), (1, .int p1)]) hx hb dX7_dayFor_49 hl (by decide) rfl (fun ls hl => ?_)
            refine lv_iload hx hb dX7_dayFor_51 (lv_at hl 0 rfl) ?_
            refine lv_if_eq (tgt := 61) hx hb dX7_dayFor_53 (by decide) (fun q => absurd q (by decide)) (fun _ => ?_)
            refine lv_iload hx hb dX7_dayFor_56 (lv_at hl 4 rfl) ?_
            refine lv_goto (tgt := 62) hx hb dX7_dayFor_58 (by decide) ?_
            refine lv_istore_n (lv' := [(2, .int x4_7), (6, .int (1 : Int32)), (5, .int r8), (3, .int x3_7), (4, .int x4_7), (0, .ref (aM 0)), (1, .int p1)]) hx hb dX7_dayFor_62 rfl hl (by decide) rfl (fun ls hl => ?_)
            refine lv_iload hx hb dX7_dayFor_63 (lv_at hl 1 rfl) ?_
            refine lv_if_eq (tgt := 73) hx hb dX7_dayFor_65 (by decide) (fun q => absurd q (by decide)) (fun _ => ?_)
            refine lv_iload hx hb dX7_dayFor_68 (lv_at hl 2 rfl) ?_
            refine lv_goto (tgt := 74) hx hb dX7_dayFor_70 (by decide) ?_
            refine lv_istore_n (lv' := [(3, .int r8), (2, .int x4_7), (6, .int (1 : Int32)), (5, .int r8), (4, .int x4_7), (0, .ref (aM 0)), (1, .int p1)]) hx hb dX7_dayFor_74 rfl hl (by decide) rfl (fun ls hl => ?_)
            refine lv_iinc (v := (x4_7 + 1)) (lv' := [(4, .int (x4_7 + 1)), (3, .int r8), (2, .int x4_7), (6, .int (1 : Int32)), (5, .int r8), (0, .ref (aM 0)), (1, .int p1)]) hx hb dX7_dayFor_75 hl (k := 4) rfl rfl (by decide) rfl (fun ls hl => ?_)
            refine lv_goto (tgt := 7) hx hb dX7_dayFor_78 (by decide) ?_
            exact ih x4_7 r8 (x4_7 + 1) u9 _ _ hfu hR hP hD hS ls (lv_sub hl [2, 1, 0, 5, 6] rfl)
          · rw [if_neg c_11] at hR
            refine lv_iload hx hb dX7_dayFor_38 (lv_at hl 0 rfl) ?_
            refine lv_iload_n hx hb dX7_dayFor_40 rfl (lv_at hl 2 rfl) ?_
            refine lv_icmp_le (tgt := 48) hx hb dX7_dayFor_41 (by decide) (fun c_12 => ?_) (fun c_12 => ?_)
            · rw [if_pos c_12] at hR
              refine lv_iconst (v := (0 : Int32)) hx hb dX7_dayFor_48 (by decide) ?_
              refine lv_istore (lv' := [(6, .int (0 : Int32)), (5, .int r8), (2, .int x2_7), (3, .int x3_7), (4, .int x4_7), (0, .ref (aM 0)), (1, .int p1)]) hx hb dX7_dayFor_49 hl (by decide) rfl (fun ls hl => ?_)
              refine lv_iload hx hb dX7_dayFor_51 (lv_at hl 0 rfl) ?_
              refine lv_if_eq (tgt := 61) hx hb dX7_dayFor_53 (by decide) (fun _ => ?_) (fun q => absurd (by decide) q)
              refine lv_iload_n hx hb dX7_dayFor_61 rfl (lv_at hl 2 rfl) ?_
              refine lv_istore_n (lv' := [(2, .int x2_7), (6, .int (0 : Int32)), (5, .int r8), (3, .int x3_7), (4, .int x4_7), (0, .ref (aM 0)), (1, .int p1)]) hx hb dX7_dayFor_62 rfl hl (by decide) rfl (fun ls hl => ?_)
              refine lv_iload hx hb dX7_dayFor_63 (lv_at hl 1 rfl) ?_
              refine lv_if_eq (tgt := 73) hx hb dX7_dayFor_65 (by decide) (fun _ => ?_) (fun q => absurd (by decide) q)
              refine lv_iload_n hx hb dX7_dayFor_73 rfl (lv_at hl 3 rfl) ?_
              refine lv_istore_n (lv' := [(3, .int x3_7), (2, .int x2_7), (6, .int (0 : Int32)), (5, .int r8), (4, .int x4_7), (0, .ref (aM 0)), (1, .int p1)]) hx hb dX7_dayFor_74 rfl hl (by decide) rfl (fun ls hl => ?_)
              refine lv_iinc (v := (x4_7 + 1)) (lv' := [(4, .int (x4_7 + 1)), (3, .int x3_7), (2, .int x2_7), (6, .int (0 : Int32)), (5, .int r8), (0, .ref (aM 0)), (1, .int p1)]) hx hb dX7_dayFor_75 hl (k := 4) rfl rfl (by decide) rfl (fun ls hl => ?_)
              refine lv_goto (tgt := 7) hx hb dX7_dayFor_78 (by decide) ?_
              exact ih x2_7 x3_7 (x4_7 + 1) u9 _ _ hfu hR hP hD hS ls (lv_sub hl [2, 1, 0, 5, 6] rfl)
            · rw [if_neg c_12] at hR
              refine lv_iconst (v := (1 : Int32)) hx hb dX7_dayFor_44 (by decide) ?_
              refine lv_goto (tgt := 49) hx hb dX7_dayFor_45 (by decide) ?_
              refine lv_istore (lv' := [(6, .int (1 : Int32)), (5, .int r8), (2, .int x2_7), (3, .int x3_7), (4, .int x4_7), (0, .ref (aM 0)), (1, .int p1)]) hx hb dX7_dayFor_49 hl (by decide) rfl (fun ls hl => ?_)
              refine lv_iload hx hb dX7_dayFor_51 (lv_at hl 0 rfl) ?_
              refine lv_if_eq (tgt := 61) hx hb dX7_dayFor_53 (by decide) (fun q => absurd q (by decide)) (fun _ => ?_)
              refine lv_iload hx hb dX7_dayFor_56 (lv_at hl 4 rfl) ?_
              refine lv_goto (tgt := 62) hx hb dX7_dayFor_58 (by decide) ?_
              refine lv_istore_n (lv' := [(2, .int x4_7), (6, .int (1 : Int32)), (5, .int r8), (3, .int x3_7), (4, .int x4_7), (0, .ref (aM 0)), (1, .int p1)]) hx hb dX7_dayFor_62 rfl hl (by decide) rfl (fun ls hl => ?_)
              refine lv_iload hx hb dX7_dayFor_63 (lv_at hl 1 rfl) ?_
              refine lv_if_eq (tgt := 73) hx hb dX7_dayFor_65 (by decide) (fun q => absurd q (by decide)) (fun _ => ?_)
              refine lv_iload hx hb dX7_dayFor_68 (lv_at hl 2 rfl) ?_
              refine lv_goto (tgt := 74) hx hb dX7_dayFor_70 (by decide) ?_
              refine lv_istore_n (lv' := [(3, .int r8), (2, .int x4_7), (6, .int (1 : Int32)), (5, .int r8), (4, .int x4_7), (0, .ref (aM 0)), (1, .int p1)]) hx hb dX7_dayFor_74 rfl hl (by decide) rfl (fun ls hl => ?_)
              refine lv_iinc (v := (x4_7 + 1)) (lv' := [(4, .int (x4_7 + 1)), (3, .int r8), (2, .int x4_7), (6, .int (1 : Int32)), (5, .int r8), (0, .ref (aM 0)), (1, .int p1)]) hx hb dX7_dayFor_75 hl (k := 4) rfl rfl (by decide) rfl (fun ls hl => ?_)
              refine lv_goto (tgt := 7) hx hb dX7_dayFor_78 (by decide) ?_
              exact ih x4_7 r8 (x4_7 + 1) u9 _ _ hfu hR hP hD hS ls (lv_sub hl [2, 1, 0, 5, 6] rfl)
  refine LOOP7 (fun x2_7 M_7 => (some (x2_7, M_7))) (fun x2_7 M_7 H1 locs hR hP hD hS ls hl => ?_) 28 (-1 : Int32) (0 : Int32) (0 : Int32) M _ _ (by decide) hR hP hD hS ls (lv_sub hl [2, 1, 0, 3, 4] rfl)
  try dsimp only at hR
  refine lv_iload_n hx hb dX7_dayFor_81 rfl (lv_at hl 0 rfl) ?_
  exact W.iret (v := x2_7) hx hb hr (fun t ht hW => ⟨⟨x2_7, M_7, rfl, Option.some.inj hR, P_at ht hP⟩, hS.F ht⟩) hS.2.2 dX7_dayFor_82
abbrev rm_X7_bestDay : Room := { frames := 9, cells := 0, slots := 0, locals := 210 }
abbrev q_X7_bestDay (dC : Nat → ClassId) (dI : Nat → Nat → Nat) (cI cZ cS : ClassId) (aM : Nat → Nat) (hs : Int64) (res : Int32 × Pic) (A : Nat → Prop) : Array Value → State → Outcome → State → Prop := va_Qi (fun (r : Int32) (u : Pic) => (r, u) = res) (fun u t => va_P (dC, dI) vwCl (wMo cI aM u hs) t.heap) A
set_option maxHeartbeats 4000000 in
set_option maxRecDepth 100000 in
theorem met_X7_bestDay (l : Launch) (dC : Nat → ClassId) (dI : Nat → Nat → Nat) (cI cZ cS : ClassId) (aM : Nat → Nat) (M : Pic) (hs : Int64) (sz : Nat) (p1 : Int32) (res : Int32 × Pic) (hR : f7_bestDay M p1 = some res) : Met l yX7_bestDay wsX7_bestDay rm_X7_bestDay (va_Pc [.ref (aM 0), .int p1] (pW (dC, dI) (tyS cI cZ cS) (wMo cI aM M hs) sz)) (q_X7_bestDay dC dI cI cZ cS aM hs res (va_A (wMo cI aM M hs) sz)) 0 0 (va_A (wMo cI aM M hs) sz) := by
  refine Met.ofW (cc := cX7_bestDay) (maxL := 2) (ret := (some .int)) (by decide) rfl ?_
  intro p e s m args below meth c s₁ B hml hv
  obtain ⟨rfl, hsz, hP, hK, hD0, hN⟩ := hv
  have hx := B.exec
  have hb := B.bytes
  have hr := B.returns
  have hts := atoms_spec (ws := wsX7_bestDay) B.pre
  have hown : s.vm.findClass RX7 = some m.cls := findClass_of_methodNamed B.named
  have hlocks := B.notSynchronized
  subst hsz
  have hD := hD0.self (sz := s.heap.size)
  generalize hAe : va_A (wMo cI aM M hs) s.heap.size = A at hD ⊢
  have hA : ∀ q : Nat, s.heap.size ≤ q → A q := fun q h => by rw [← hAe]; exact Or.inr h
  have hS : va_S A s.heap s.heap [] := va_S.rf
  have hP : va_P (dC, dI) vwCl (wMo cI aM M hs) s.heap := hP
  rw [f7_bestDay] at hR
  have hin7 : ∀ w ∈ wsX70, w ∈ wsX7_bestDay := by decide +kernel
  have hl := lv_entry ([.ref (aM 0), .int p1]) (n := 2) (Nat.le_of_ble_eq_true rfl)
  rw [lg_entry_eq]
  generalize (lg_sl ([.ref (aM 0), .int p1]) ++ List.replicate (2 - (lg_sl ([.ref (aM 0), .int p1])).length) Slot.unset).toArray = ls at hl ⊢
  have hl : lv_has ls 2 [(0, .ref (aM 0)), (1, .int p1)] := hl
  refine lv_aload_n hx hb dX7_bestDay_0 rfl (lv_at hl 0 rfl) ?_
  refine lv_aload_n hx hb dX7_bestDay_1 rfl (lv_at hl 0 rfl) ?_
  refine lv_iload_n hx hb dX7_bestDay_2 rfl (lv_at hl 1 rfl) ?_
  refine va_calli (va_runV (As := [.int p1]) (rest := [.ref (aM 0)]) ⟨hx, hb, hml, hown, hts⟩ (met_X7_isDish l dC dI cI cZ cS aM M hs s.heap.size p1) (cwV 1 hts gX7_bestDay_X7_isDish rfl rfl rfl (by decide +kernel) ⟨Nat.le_of_ble_eq_true rfl, Nat.le_of_ble_eq_true rfl⟩) (pV (wc := wMo cI aM M hs) (ci := 7) (q0 := 0) hK hP hD hN [0, 1, 2, 3, 4, 5, 6, 7, 8] rfl (by decide) rfl rfl) rfl rfl hl.1 rfl (lv_room (Nat.le_of_ble_eq_true rfl)) dX7_bestDay_3 ⟨Nat.zero_le _, Nat.zero_le _⟩) hS (fun q _ h => a0_in hS hA q h) (a0_in hS hA) (fun r1 u t H1 locs ht hvm hw hB hz1 hk1 hS => ?_)
  obtain ⟨hw, nb2⟩ := hw
  subst hw
  have hP := rdk hP hk1
  refine lv_if_eq (tgt := 13) hx hb dX7_bestDay_6 (by decide) (fun c_3 => ?_) (fun c_3 => ?_)
  · rw [if_pos c_3] at hR
    refine lv_iconst (v := (1 : Int32)) hx hb dX7_bestDay_13 (by decide) ?_
    refine va_put (D := (dC, dI)) (ci := 7) (v := .int (1 : Int32)) (ty := .int) (C := RX7) (T := TX7) (N := 15) hx hb hts hin7 tyX7 tyX7_ok nmX7 hown hK hP hD hS 0 rfl rfl 7 (by decide) (hw_ hts 1 rfl) (fun _ h9 => h9) rfl (by decide +kernel) rfl rfl (Nat.le_of_ble_eq_true rfl) dX7_bestDay_14 (fun H2 locs hP hD hS => ?_)
    have hP : va_P (dC, dI) vwCl (wMo cI aM (pset M 7 (fun _ => (1 : Int32))) hs) H2 := hP
    have hD : va_D A (wMo cI aM (pset M 7 (fun _ => (1 : Int32))) hs) := hD
    refine lv_aload_n hx hb dX7_bestDay_17 rfl (lv_at hl 0 rfl) ?_
    refine va_get (D := (dC, dI)) (ci := 7) (v := .int (1 : Int32)) (C := RX7) (T := TX7) (N := 15) hx hb hts hin7 hown hK hP 0 rfl rfl 7 (by decide) (hw_ hts 1 rfl) (fun _ h9 => h9) rfl dX7_bestDay_18 ?_
    refine lv_if_le (tgt := 28) hx hb dX7_bestDay_21 (by decide) (fun q => absurd q (by decide)) (fun _ => ?_)
    refine lv_iconst (v := (0 : Int32)) hx hb dX7_bestDay_24 (by decide) ?_
    refine lv_goto (tgt := 33) hx hb dX7_bestDay_25 (by decide) ?_
    exact W.iret (v := (0 : Int32)) hx hb hr (fun t ht hW => ⟨⟨(0 : Int32), (pset M 7 (fun _ => (1 : Int32))), rfl, Option.some.inj hR, P_at ht hP⟩, hS.F ht⟩) hS.2.2 dX7_bestDay_33
  · rw [if_neg c_3] at hR
    refine lv_iconst (v := (0 : Int32)) hx hb dX7_bestDay_9 (by decide) ?_
    refine lv_goto (tgt := 14) hx hb dX7_bestDay_10 (by decide) ?_
    refine va_put (D := (dC, dI)) (ci := 7) (v := .int (0 : Int32)) (ty := .int) (C := RX7) (T := TX7) (N := 15) hx hb hts hin7 tyX7 tyX7_ok nmX7 hown hK hP hD hS 0 rfl rfl 7 (by decide) (hw_ hts 1 rfl) (fun _ h9 => h9) rfl (by decide +kernel) rfl rfl (Nat.le_of_ble_eq_true rfl) dX7_bestDay_14 (fun H2 locs hP hD hS => ?_)
    have hP : va_P (dC, dI) vwCl (wMo cI aM (pset M 7 (fun _ => (0 : Int32))) hs) H2 := hP
    have hD : va_D A (wMo cI aM (pset M 7 (fun _ => (0 : Int32))) hs) := hD
    refine lv_aload_n hx hb dX7_bestDay_17 rfl (lv_at hl 0 rfl) ?_
    refine va_get (D := (dC, dI)) (ci := 7) (v := .int (0 : Int32)) (C := RX7) (T := TX7) (N := 15) hx hb hts hin7 hown hK hP 0 rfl rfl 7 (by decide) (hw_ hts 1 rfl) (fun _ h9 => h9) rfl dX7_bestDay_18 ?_
    refine lv_if_le (tgt := 28) hx hb dX7_bestDay_21 (by decide) (fun _ => ?_) (fun q => absurd (by decide) q)
    refine lv_aload_n hx hb dX7_bestDay_28 rfl (lv_at hl 0 rfl) ?_
    refine lv_iload_n hx hb dX7_bestDay_29 rfl (lv_at hl 1 rfl) ?_
    obtain ⟨r4, u5, hc6, hR⟩ := ob2_e hR
    have hF := va_free (wc := wMo cI aM (pset M 7 (fun _ => (0 : Int32))) hs) hD hS hA [0, 1, 2, 3, 4, 5, 6, 7, 8] rfl
    refine va_calli (va_runV (As := [.int p1]) (rest := []) ⟨hx, hb, hml, hown, hts⟩ (met_X7_dayFor l dC dI cI cZ cS aM (pset M 7 (fun _ => (0 : Int32))) hs H2.size p1 (r4, u5) hc6) (cwV 1 hts gX7_bestDay_X7_dayFor rfl rfl rfl (by decide +kernel) ⟨Nat.le_of_ble_eq_true rfl, Nat.le_of_ble_eq_true rfl⟩) (pV (wc := wMo cI aM (pset M 7 (fun _ => (0 : Int32))) hs) (ci := 7) (q0 := 0) hK hP hD hN [0, 1, 2, 3, 4, 5, 6, 7, 8] rfl (by decide) rfl rfl) rfl rfl hl.1 rfl (lv_room (Nat.le_of_ble_eq_true rfl)) dX7_bestDay_30 ⟨Nat.zero_le _, Nat.zero_le _⟩) hS (fun q _ h => hF q h) hF (fun r4 u5 t H3 locs ht hvm hw hB hz1 hk1 hS => ?_)
    try dsimp only at hw hB
    rw [ht] at hB
    cases hw
    have hP := wrk (w2 := wMo cI aM u5 hs) hP hD [0, 1, 2, 3, 4, 5, 6, 7, 8] rfl (by decide) hk1 hB rfl rfl
    have hD := D_addr (w1 := wMo cI aM u5 hs) hD rfl
    exact W.iret (v := r4) hx hb hr (fun t ht hW => ⟨⟨r4, u5, rfl, Option.some.inj hR, P_at ht hP⟩, hS.F ht⟩) hS.2.2 dX7_bestDay_33
