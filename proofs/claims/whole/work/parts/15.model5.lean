abbrev rm_X7_planned : Room := { frames := 2, cells := 0, slots := 0, locals := 42 }
abbrev q_X7_planned (dC : Nat → ClassId) (dI : Nat → Nat → Nat) (cI cZ cS : ClassId) (aM : Nat → Nat) (hs : Int64) (res : Int32 × Pic) (A : Nat → Prop) : Array Value → State → Outcome → State → Prop := va_Qi (fun (r : Int32) (u : Pic) => (r, u) = res) (fun u t => va_P (dC, dI) vwCl (wMo cI aM u hs) t.heap) A
set_option maxHeartbeats 4000000 in
set_option maxRecDepth 100000 in
theorem met_X7_planned (l : Launch) (dC : Nat → ClassId) (dI : Nat → Nat → Nat) (cI cZ cS : ClassId) (aM : Nat → Nat) (M : Pic) (hs : Int64) (sz : Nat) (p1 : Int32) (p2 : Int32) (res : Int32 × Pic) (hR : f7_planned M p1 p2 = some res) : Met l yX7_planned wsX7_planned rm_X7_planned (va_Pc [.ref (aM 0), .int p1, .int p2] (pW (dC, dI) (tyS cI cZ cS) (wMo cI aM M hs) sz)) (q_X7_planned dC dI cI cZ cS aM hs res (va_A (wMo cI aM M hs) sz)) 0 0 (va_A (wMo cI aM M hs) sz) := by
  refine Met.ofW (cc := cX7_planned) (maxL := 3) (ret := (some .int)) (by decide) rfl ?_
  intro p e s m args below meth c s₁ B hml hv
  obtain ⟨rfl, hsz, hP, hK, hD0, hN⟩ := hv
  have hx := B.exec
  have hb := B.bytes
  have hr := B.returns
  have hts := atoms_spec (ws := wsX7_planned) B.pre
  have hown : s.vm.findClass RX7 = some m.cls := findClass_of_methodNamed B.named
  have hlocks := B.notSynchronized
  subst hsz
  have hD := hD0.self (sz := s.heap.size)
  generalize hAe : va_A (wMo cI aM M hs) s.heap.size = A at hD ⊢
  have hA : ∀ q : Nat, s.heap.size ≤ q → A q := fun q h => by rw [← hAe]; exact Or.inr h
  have hS : va_S A s.heap s.heap [] := va_S.rf
  have hP : va_P (dC, dI) vwCl (wMo cI aM M hs) s.heap := hP
  rw [f7_planned] at hR
  have hin7 : ∀ w ∈ wsX70, w ∈ wsX7_planned := by decide +kernel
  have hl := lv_entry ([.ref (aM 0), .int p1, .int p2]) (n := 3) (Nat.le_of_ble_eq_true rfl)
  rw [lg_entry_eq]
  generalize (lg_sl ([.ref (aM 0), .int p1, .int p2]) ++ List.replicate (3 - (lg_sl ([.ref (aM 0), .int p1, .int p2])).length) Slot.unset).toArray = ls at hl ⊢
  have hl : lv_has ls 3 [(0, .ref (aM 0)), (1, .int p1), (2, .int p2)] := hl
  refine lv_aload_n hx hb dX7_planned_0 rfl (lv_at hl 0 rfl) ?_
  refine lv_iload_n hx hb dX7_planned_1 rfl (lv_at hl 1 rfl) ?_
  refine va_calli (va_runS (As := [.int p1]) (rest := [.ref (aM 0)]) ⟨hx, hb, hml, hown, hts⟩ (met_X7_isDay l dC dI cI cZ cS s.heap.size p1) (va_cwS 1 hts gX7_planned_X7_isDay rfl rfl rfl (by decide +kernel) ⟨Nat.le_of_ble_eq_true rfl, Nat.le_of_ble_eq_true rfl⟩) (pS (wc := []) hK hP hD hN [] rfl (by decide)) rfl rfl hl.1 rfl (lv_room (Nat.le_of_ble_eq_true rfl)) dX7_planned_2 ⟨Nat.zero_le _, Nat.zero_le _⟩) hS (fun q _ h => a0_in hS hA q h) (a0_in hS hA) (fun r1 u t H1 locs ht hvm hw hB hz1 hk1 hS => ?_)
  obtain ⟨hw, nb2⟩ := hw
  subst hw
  have hP := rdk hP hk1
  refine lv_if_eq (tgt := 19) hx hb dX7_planned_5 (by decide) (fun c_3 => ?_) (fun c_3 => ?_)
  · rw [if_pos c_3] at hR
    refine lv_iconst (v := (1 : Int32)) hx hb dX7_planned_19 (by decide) ?_
    refine va_put (D := (dC, dI)) (ci := 7) (v := .int (1 : Int32)) (ty := .int) (C := RX7) (T := TX7) (N := 15) hx hb hts hin7 tyX7 tyX7_ok nmX7 hown hK hP hD hS 0 rfl rfl 7 (by decide) (hw_ hts 1 rfl) (fun _ h9 => h9) rfl (by decide +kernel) rfl rfl (Nat.le_of_ble_eq_true rfl) dX7_planned_20 (fun H2 locs hP hD hS => ?_)
    have hP : va_P (dC, dI) vwCl (wMo cI aM (pset M 7 (fun _ => (1 : Int32))) hs) H2 := hP
    have hD : va_D A (wMo cI aM (pset M 7 (fun _ => (1 : Int32))) hs) := hD
    refine lv_aload_n hx hb dX7_planned_23 rfl (lv_at hl 0 rfl) ?_
    refine va_get (D := (dC, dI)) (ci := 7) (v := .int (1 : Int32)) (C := RX7) (T := TX7) (N := 15) hx hb hts hin7 hown hK hP 0 rfl rfl 7 (by decide) (hw_ hts 1 rfl) (fun _ h9 => h9) rfl dX7_planned_24 ?_
    refine lv_if_le (tgt := 34) hx hb dX7_planned_27 (by decide) (fun q => absurd q (by decide)) (fun _ => ?_)
    refine lv_iconst (v := (0 : Int32)) hx hb dX7_planned_30 (by decide) ?_
    refine lv_goto (tgt := 40) hx hb dX7_planned_31 (by decide) ?_
    exact W.iret (v := (0 : Int32)) hx hb hr (fun t ht hW => ⟨⟨(0 : Int32), (pset M 7 (fun _ => (1 : Int32))), rfl, Option.some.inj hR, P_at ht hP⟩, hS.F ht⟩) hS.2.2 dX7_planned_40
  · rw [if_neg c_3] at hR
    refine lv_iload_n hx hb dX7_planned_8 rfl (lv_at hl 2 rfl) ?_
    refine va_calli (va_runS (As := [.int p2]) (rest := [.ref (aM 0)]) ⟨hx, hb, hml, hown, hts⟩ (met_X7_isPart l dC dI cI cZ cS H1.size p2) (va_cwS 1 hts gX7_planned_X7_isPart rfl rfl rfl (by decide +kernel) ⟨Nat.le_of_ble_eq_true rfl, Nat.le_of_ble_eq_true rfl⟩) (pS (wc := []) hK hP hD hN [] rfl (by decide)) rfl rfl hl.1 rfl (lv_room (Nat.le_of_ble_eq_true rfl)) dX7_planned_9 ⟨Nat.zero_le _, Nat.zero_le _⟩) hS (fun q _ h => a0_in hS hA q h) (a0_in hS hA) (fun r4 u t H2 locs ht hvm hw hB hz1 hk1 hS => ?_)
    obtain ⟨hw, nb5⟩ := hw
    subst hw
    have hP := rdk hP hk1
    refine lv_if_eq (tgt := 19) hx hb dX7_planned_12 (by decide) (fun c_6 => ?_) (fun c_6 => ?_)
    · rw [if_pos c_6] at hR
      refine lv_iconst (v := (1 : Int32)) hx hb dX7_planned_19 (by decide) ?_
      refine va_put (D := (dC, dI)) (ci := 7) (v := .int (1 : Int32)) (ty := .int) (C := RX7) (T := TX7) (N := 15) hx hb hts hin7 tyX7 tyX7_ok nmX7 hown hK hP hD hS 0 rfl rfl 7 (by decide) (hw_ hts 1 rfl) (fun _ h9 => h9) rfl (by decide +kernel) rfl rfl (Nat.le_of_ble_eq_true rfl) dX7_planned_20 (fun H3 locs hP hD hS => ?_)
      have hP : va_P (dC, dI) vwCl (wMo cI aM (pset M 7 (fun _ => (1 : Int32))) hs) H3 := hP
      have hD : va_D A (wMo cI aM (pset M 7 (fun _ => (1 : Int32))) hs) := hD
      refine lv_aload_n hx hb dX7_planned_23 rfl (lv_at hl 0 rfl) ?_
      refine va_get (D := (dC, dI)) (ci := 7) (v := .int (1 : Int32)) (C := RX7) (T := TX7) (N := 15) hx hb hts hin7 hown hK hP 0 rfl rfl 7 (by decide) (hw_ hts 1 rfl) (fun _ h9 => h9) rfl dX7_planned_24 ?_
      refine lv_if_le (tgt := 34) hx hb dX7_planned_27 (by decide) (fun q => absurd q (by decide)) (fun _ => ?_)
      refine lv_iconst (v := (0 : Int32)) hx hb dX7_planned_30 (by decide) ?_
      refine lv_goto (tgt := 40) hx hb dX7_planned_31 (by decide) ?_
      exact W.iret (v := (0 : Int32)) hx hb hr (fun t ht hW => ⟨⟨(0 : Int32), (pset M 7 (fun _ => (1 : Int32))), rfl, Option.some.inj hR, P_at ht hP⟩, hS.F ht⟩) hS.2.2 dX7_planned_40
    · rw [if_neg c_6] at hR
      refine lv_iconst (v := (0 : Int32)) hx hb dX7_planned_15 (by decide) ?_
      refine lv_goto (tgt := 20) hx hb dX7_planned_16 (by decide) ?_
      refine va_put (D := (dC, dI)) (ci := 7) (v := .int (0 : Int32)) (ty := .int) (C := RX7) (T := TX7) (N := 15) hx hb hts hin7 tyX7 tyX7_ok nmX7 hown hK hP hD hS 0 rfl rfl 7 (by decide) (hw_ hts 1 rfl) (fun _ h9 => h9) rfl (by decide +kernel) rfl rfl (Nat.le_of_ble_eq_true rfl) dX7_planned_20 (fun H3 locs hP hD hS => ?_)
      have hP : va_P (dC, dI) vwCl (wMo cI aM (pset M 7 (fun _ => (0 : Int32))) hs) H3 := hP
      have hD : va_D A (wMo cI aM (pset M 7 (fun _ => (0 : Int32))) hs) := hD
      refine lv_aload_n hx hb dX7_planned_23 rfl (lv_at hl 0 rfl) ?_
      refine va_get (D := (dC, dI)) (ci := 7) (v := .int (0 : Int32)) (C := RX7) (T := TX7) (N := 15) hx hb hts hin7 hown hK hP 0 rfl rfl 7 (by decide) (hw_ hts 1 rfl) (fun _ h9 => h9) rfl dX7_planned_24 ?_
      refine lv_if_le (tgt := 34) hx hb dX7_planned_27 (by decide) (fun _ => ?_) (fun q => absurd (by decide) q)
      refine lv_aload_n hx hb dX7_planned_34 rfl (lv_at hl 0 rfl) ?_
      refine lv_iload_n hx hb dX7_planned_35 rfl (lv_at hl 1 rfl) ?_
      refine lv_iload_n hx hb dX7_planned_36 rfl (lv_at hl 2 rfl) ?_
      obtain ⟨r7, hc8, hR⟩ := ob1_e hR
      refine va_calli (va_runV (As := [.int p1, .int p2]) (rest := []) ⟨hx, hb, hml, hown, hts⟩ (met_X7_at l dC dI cI cZ cS aM (pset M 7 (fun _ => (0 : Int32))) hs H3.size p1 p2 r7 hc8) (cwV 2 hts gX7_planned_X7_at rfl rfl rfl (by decide +kernel) ⟨Nat.le_of_ble_eq_true rfl, Nat.le_of_ble_eq_true rfl⟩) (pV (wc := wMo cI aM (pset M 7 (fun _ => (0 : Int32))) hs) (ci := 7) (q0 := 0) hK hP hD hN [0, 1, 2, 3, 4, 5, 6, 7, 8] rfl (by decide) rfl rfl) rfl rfl hl.1 rfl (lv_room (Nat.le_of_ble_eq_true rfl)) dX7_planned_37 ⟨Nat.zero_le _, Nat.zero_le _⟩) hS (fun q _ h => a0_in hS hA q h) (a0_in hS hA) (fun r7 u t H4 locs ht hvm hw hB hz1 hk1 hS => ?_)
      cases hw
      have hP := rdk hP hk1
      exact W.iret (v := r7) hx hb hr (fun t ht hW => ⟨⟨r7, (pset M 7 (fun _ => (0 : Int32))), rfl, Option.some.inj hR, P_at ht hP⟩, hS.F ht⟩) hS.2.2 dX7_planned_40
abbrev rm_X7_servings : Room := { frames := 5, cells := 0, slots := 0, locals := 114 }
abbrev q_X7_servings (dC : Nat → ClassId) (dI : Nat → Nat → Nat) (cI cZ cS : ClassId) (aM : Nat → Nat) (hs : Int64) (res : Int32 × Pic) (A : Nat → Prop) : Array Value → State → Outcome → State → Prop := va_Qi (fun (r : Int32) (u : Pic) => (r, u) = res) (fun u t => va_P (dC, dI) vwCl (wMo cI aM u hs) t.heap) A
set_option maxHeartbeats 4000000 in
set_option maxRecDepth 100000 in
theorem met_X7_servings (l : Launch) (dC : Nat → ClassId) (dI : Nat → Nat → Nat) (cI cZ cS : ClassId) (aM : Nat → Nat) (M : Pic) (hs : Int64) (sz : Nat) (p1 : Int32) (p2 : Int32) (res : Int32 × Pic) (hR : f7_servings M p1 p2 = some res) : Met l yX7_servings wsX7_servings rm_X7_servings (va_Pc [.ref (aM 0), .int p1, .int p2] (pW (dC, dI) (tyS cI cZ cS) (wMo cI aM M hs) sz)) (q_X7_servings dC dI cI cZ cS aM hs res (va_A (wMo cI aM M hs) sz)) 0 0 (va_A (wMo cI aM M hs) sz) := by
  refine Met.ofW (cc := cX7_servings) (maxL := 7) (ret := (some .int)) (by decide) rfl ?_
  intro p e s m args below meth c s₁ B hml hv
  obtain ⟨rfl, hsz, hP, hK, hD0, hN⟩ := hv
  have hx := B.exec
  have hb := B.bytes
  have hr := B.returns
  have hts := atoms_spec (ws := wsX7_servings) B.pre
  have hown : s.vm.findClass RX7 = some m.cls := findClass_of_methodNamed B.named
  have hlocks := B.notSynchronized
  subst hsz
  have hD := hD0.self (sz := s.heap.size)
  generalize hAe : va_A (wMo cI aM M hs) s.heap.size = A at hD ⊢
  have hA : ∀ q : Nat, s.heap.size ≤ q → A q := fun q h => by rw [← hAe]; exact Or.inr h
  have hS : va_S A s.heap s.heap [] := va_S.rf
  have hP : va_P (dC, dI) vwCl (wMo cI aM M hs) s.heap := hP
  rw [f7_servings] at hR
  have hin7 : ∀ w ∈ wsX70, w ∈ wsX7_servings := by decide +kernel
  have hl := lv_entry ([.ref (aM 0), .int p1, .int p2]) (n := 7) (Nat.le_of_ble_eq_true rfl)
  rw [lg_entry_eq]
  generalize (lg_sl ([.ref (aM 0), .int p1, .int p2]) ++ List.replicate (7 - (lg_sl ([.ref (aM 0), .int p1, .int p2])).length) Slot.unset).toArray = ls at hl ⊢
  have hl : lv_has ls 7 [(0, .ref (aM 0)), (1, .int p1), (2, .int p2)] := hl
  refine lv_aload_n hx hb dX7_servings_0 rfl (lv_at hl 0 rfl) ?_
  obtain ⟨r1, u2, hc3, hR⟩ := ob2_e hR
  have hF := va_free (wc := wMo cI aM M hs) hD hS hA [0, 1, 2, 3, 4, 5, 6, 7, 8] rfl
  refine va_calli (va_runV (As := []) (rest := []) ⟨hx, hb, hml, hown, hts⟩ (met_X7_match l dC dI cI cZ cS aM M hs s.heap.size (r1, u2) hc3) (cwV 0 hts gX7_servings_X7_match rfl rfl rfl (by decide +kernel) ⟨Nat.le_of_ble_eq_true rfl, Nat.le_of_ble_eq_true rfl⟩) (pV (wc := wMo cI aM M hs) (ci := 7) (q0 := 0) hK hP hD hN [0, 1, 2, 3, 4, 5, 6, 7, 8] rfl (by decide) rfl rfl) rfl rfl hl.1 rfl (lv_room (Nat.le_of_ble_eq_true rfl)) dX7_servings_1 ⟨Nat.zero_le _, Nat.zero_le _⟩) hS (fun q _ h => hF q h) hF (fun r1 u2 t H1 locs ht hvm hw hB hz1 hk1 hS => ?_)
  obtain ⟨hw, nb4⟩ := hw
  try dsimp only at hw hB
  rw [ht] at hB
  cases hw
  have hP := wrk (w2 := wMo cI aM u2 hs) hP hD [0, 1, 2, 3, 4, 5, 6, 7, 8] rfl (by decide) hk1 hB rfl rfl
  have hD := D_addr (w1 := wMo cI aM u2 hs) hD rfl
  refine lv_istore_n (lv' := [(3, .int r1), (0, .ref (aM 0)), (1, .int p1), (2, .int p2)]) hx hb dX7_servings_4 rfl hl (by decide) rfl (fun ls hl => ?_)
  refine lv_iconst (v := (0 : Int32)) hx hb dX7_servings_5 (by decide) ?_
  refine lv_istore (lv' := [(4, .int (0 : Int32)), (3, .int r1), (0, .ref (aM 0)), (1, .int p1), (2, .int p2)]) hx hb dX7_servings_6 hl (by decide) rfl (fun ls hl => ?_)
  refine lv_iconst (v := (0 : Int32)) hx hb dX7_servings_8 (by decide) ?_
  refine lv_istore (lv' := [(5, .int (0 : Int32)), (4, .int (0 : Int32)), (3, .int r1), (0, .ref (aM 0)), (1, .int p1), (2, .int p2)]) hx hb dX7_servings_9 hl (by decide) rfl (fun ls hl => ?_)
  have LOOP11 : ∀ (k : Int32 → Pic → (Option (Int32 × Pic))), (∀ (x4_11 : Int32) (M_11 : Pic) (H2 : Heap) (locs : List Loc), k x4_11 M_11 = some res → va_P (dC, dI) vwCl (wMo cI aM M_11 hs) H2 → va_D A (wMo cI aM M_11 hs) → va_S A s.heap H2 locs → ∀ (ls : Array Slot), lv_has ls 7 [(4, .int x4_11)] → W p l e (headSpec wsX7_servings rm_X7_servings).room s m ([.ref (aM 0), .int p1, .int p2] : List Value).toArray below meth c H2 locs 0 0 (MQ below (q_X7_servings dC dI cI cZ cS aM hs res A) ([.ref (aM 0), .int p1, .int p2] : List Value).toArray s 0 0 A) (F0 m 83 ls [])) → ∀ (nf : Nat) (x4_11 : Int32) (x5_11 : Int32) (M_11 : Pic) (H2 : Heap) (locs : List Loc), ((84 : Int32)).toInt - (x5_11).toInt ≤ (nf : Int) → f7_servings_L11 p1 p2 nf x4_11 x5_11 M_11 k = some res → va_P (dC, dI) vwCl (wMo cI aM M_11 hs) H2 → va_D A (wMo cI aM M_11 hs) → va_S A s.heap H2 locs → ∀ (ls : Array Slot), lv_has ls 7 [(4, .int x4_11), (5, .int x5_11), (0, .ref (aM 0)), (1, .int p1), (2, .int p2)] → W p l e (headSpec wsX7_servings rm_X7_servings).room s m ([.ref (aM 0), .int p1, .int p2] : List Value).toArray below meth c H2 locs 0 0 (MQ below (q_X7_servings dC dI cI cZ cS aM hs res A) ([.ref (aM 0), .int p1, .int p2] : List Value).toArray s 0 0 A) (F0 m 11 ls []) := by
    intro k hk nf
    induction nf with
    | zero =>
      intro x4_11 x5_11 M_11 H2 locs hfu hR hP hD hS ls hl
      rw [f7_servings_L11] at hR
      refine lv_iload hx hb dX7_servings_11 (lv_at hl 1 rfl) ?_
      refine lv_bipush (v := (84 : Int32)) hx hb dX7_servings_13 (by decide) ?_
      refine lv_icmp_ge (tgt := 83) hx hb dX7_servings_15 (by decide) (fun c_5 => ?_) (fun c_5 => ?_)
      · skip
        exact hk x4_11 M_11 _ _  hR hP hD hS ls (lv_sub hl [0] rfl)
      · exact (fuel0 hfu c_5).elim
    | succ nf ih =>
      intro x4_11 x5_11 M_11 H2 locs hfu hR hP hD hS ls hl
      rw [f7_servings_L11] at hR
      refine lv_iload hx hb dX7_servings_11 (lv_at hl 1 rfl) ?_
      refine lv_bipush (v := (84 : Int32)) hx hb dX7_servings_13 (by decide) ?_
      refine lv_icmp_ge (tgt := 83) hx hb dX7_servings_15 (by decide) (fun c_6 => ?_) (fun c_6 => ?_)
      · rw [if_pos c_6] at hR
        exact hk x4_11 M_11 _ _  hR hP hD hS ls (lv_sub hl [0] rfl)
      · rw [if_neg c_6] at hR
        have hfu := fuelS hfu c_6
        refine lv_aload_n hx hb dX7_servings_18 rfl (lv_at hl 2 rfl) ?_
        refine va_get (D := (dC, dI)) (ci := 7) (v := .ref (aM 1)) (C := RX7) (T := TX7) (N := 15) hx hb hts hin7 hown hK hP 0 rfl rfl 0 (by decide) (hw_ hts 1 rfl) (fun _ h9 => h9) rfl dX7_servings_19 ?_
        refine lv_bipush (v := (89 : Int32)) hx hb dX7_servings_22 (by decide) ?_
        refine lv_iload hx hb dX7_servings_24 (lv_at hl 1 rfl) ?_
        refine lv_iadd hx hb dX7_servings_26 ?_
        obtain ⟨hix7, hR⟩ := ck_some hR
        refine va_iald (f := (M_11 0)) hx hb hK hP 1 0 rfl rfl hix7 dX7_servings_27 ?_
        refine lv_iload_n hx hb dX7_servings_28 rfl (lv_at hl 3 rfl) ?_
        refine lv_icmp_ne (tgt := 59) hx hb dX7_servings_29 (by decide) (fun c_8 => ?_) (fun c_8 => ?_)
        · rw [if_neg c_8] at hR
          refine lv_iconst (v := (0 : Int32)) hx hb dX7_servings_59 (by decide) ?_
          refine lv_istore (lv' := [(6, .int (0 : Int32)), (4, .int x4_11), (5, .int x5_11), (0, .ref (aM 0)), (1, .int p1), (2, .int p2)]) hx hb dX7_servings_60 hl (by decide) rfl (fun ls hl => ?_)
          refine lv_iload hx hb dX7_servings_62 (lv_at hl 1 rfl) ?_
          refine lv_iload hx hb dX7_servings_64 (lv_at hl 0 rfl) ?_
          refine lv_if_eq (tgt := 73) hx hb dX7_servings_66 (by decide) (fun _ => ?_) (fun q => absurd (by decide) q)
          refine lv_iconst (v := (0 : Int32)) hx hb dX7_servings_73 (by decide) ?_
          refine lv_iadd hx hb dX7_servings_74 ?_
          refine lv_topi (fun v9 hv9 => ?_)
          have hR := bd_n hv9 hR
          refine lv_istore (lv' := [(4, .int v9), (6, .int (0 : Int32)), (5, .int x5_11), (0, .ref (aM 0)), (1, .int p1), (2, .int p2)]) hx hb dX7_servings_75 hl (by decide) rfl (fun ls hl => ?_)
          refine lv_iinc (v := (x5_11 + 1)) (lv' := [(5, .int (x5_11 + 1)), (4, .int v9), (6, .int (0 : Int32)), (0, .ref (aM 0)), (1, .int p1), (2, .int p2)]) hx hb dX7_servings_77 hl (k := 2) rfl rfl (by decide) rfl (fun ls hl => ?_)
          refine lv_goto (tgt := 11) hx hb dX7_servings_80 (by decide) ?_
          exact ih v9 (x5_11 + 1) M_11 _ _ hfu hR hP hD hS ls (lv_sub hl [1, 0, 3, 4, 5] rfl)
        · rw [if_pos c_8] at hR
          refine lv_iload_n hx hb dX7_servings_32 rfl (lv_at hl 4 rfl) ?_
          refine lv_if_eq (tgt := 55) hx hb dX7_servings_33 (by decide) (fun c_10 => ?_) (fun c_10 => ?_)
          · rw [if_pos c_10] at hR
            refine lv_iconst (v := (1 : Int32)) hx hb dX7_servings_55 (by decide) ?_
            refine lv_goto (tgt := 60) hx hb dX7_servings_56 (by decide) ?_
            refine lv_istore (lv' := [(6, .int (1 : Int32)), (4, .int x4_11), (5, .int x5_11), (0, .ref (aM 0)), (1, .int p1), (2, .int p2)]) hx hb dX7_servings_60 hl (by decide) rfl (fun ls hl => ?_)
            refine lv_iload hx hb dX7_servings_62 (lv_at hl 1 rfl) ?_
            refine lv_iload hx hb dX7_servings_64 (lv_at hl 0 rfl) ?_
            refine lv_if_eq (tgt := 73) hx hb dX7_servings_66 (by decide) (fun q => absurd q (by decide)) (fun _ => ?_)
            refine lv_iconst (v := (1 : Int32)) hx hb dX7_servings_69 (by decide) ?_
            refine lv_goto (tgt := 74) hx hb dX7_servings_70 (by decide) ?_
            refine lv_iadd hx hb dX7_servings_74 ?_
            refine lv_topi (fun v11 hv11 => ?_)
            have hR := bd_n hv11 hR
            refine lv_istore (lv' := [(4, .int v11), (6, .int (1 : Int32)), (5, .int x5_11), (0, .ref (aM 0)), (1, .int p1), (2, .int p2)]) hx hb dX7_servings_75 hl (by decide) rfl (fun ls hl => ?_)
            refine lv_iinc (v := (x5_11 + 1)) (lv' := [(5, .int (x5_11 + 1)), (4, .int v11), (6, .int (1 : Int32)), (0, .ref (aM 0)), (1, .int p1), (2, .int p2)]) hx hb dX7_servings_77 hl (k := 2) rfl rfl (by decide) rfl (fun ls hl => ?_)
            refine lv_goto (tgt := 11) hx hb dX7_servings_80 (by decide) ?_
            exact ih v11 (x5_11 + 1) M_11 _ _ hfu hR hP hD hS ls (lv_sub hl [1, 0, 3, 4, 5] rfl)
          · rw [if_neg c_10] at hR
            refine lv_aload_n hx hb dX7_servings_36 rfl (lv_at hl 2 rfl) ?_
            refine lv_iload hx hb dX7_servings_37 (lv_at hl 1 rfl) ?_
            obtain ⟨r12, hc13, hR⟩ := ob1_e hR
            refine va_calli (va_runV (As := [.int x5_11]) (rest := []) ⟨hx, hb, hml, hown, hts⟩ (met_X7_isSource l dC dI cI cZ cS aM M_11 hs H2.size x5_11 r12 hc13) (cwV 1 hts gX7_servings_X7_isSource rfl rfl rfl (by decide +kernel) ⟨Nat.le_of_ble_eq_true rfl, Nat.le_of_ble_eq_true rfl⟩) (pV (wc := wMo cI aM M_11 hs) (ci := 7) (q0 := 0) hK hP hD hN [0, 1, 2, 3, 4, 5, 6, 7, 8] rfl (by decide) rfl rfl) rfl rfl hl.1 rfl (lv_room (Nat.le_of_ble_eq_true rfl)) dX7_servings_39 ⟨Nat.zero_le _, Nat.zero_le _⟩) hS (fun q _ h => a0_in hS hA q h) (a0_in hS hA) (fun r12 u t H3 locs ht hvm hw hB hz1 hk1 hS => ?_)
            obtain ⟨hw, nb14⟩ := hw
            cases hw
            have hP := rdk hP hk1
            refine lv_if_eq (tgt := 59) hx hb dX7_servings_42 (by decide) (fun c_15 => ?_) (fun c_15 => ?_)
            · rw [if_pos c_15] at hR
              refine lv_iconst (v := (0 : Int32)) hx hb dX7_servings_59 (by decide) ?_
              refine lv_istore (lv' := [(6, .int (0 : Int32)), (4, .int x4_11), (5, .int x5_11), (0, .ref (aM 0)), (1, .int p1), (2, .int p2)]) hx hb dX7_servings_60 hl (by decide) rfl (fun ls hl => ?_)
              refine lv_iload hx hb dX7_servings_62 (lv_at hl 1 rfl) ?_
              refine lv_iload hx hb dX7_servings_64 (lv_at hl 0 rfl) ?_
              refine lv_if_eq (tgt := 73) hx hb dX7_servings_66 (by decide) (fun _ => ?_) (fun q => absurd (by decide) q)
              refine lv_iconst (v := (0 : Int32)) hx hb dX7_servings_73 (by decide) ?_
              refine lv_iadd hx hb dX7_servings_74 ?_
              refine lv_topi (fun v16 hv16 => ?_)
              have hR := bd_n hv16 hR
              refine lv_istore (lv' := [(4, .int v16), (6, .int (0 : Int32)), (5, .int x5_11), (0, .ref (aM 0)), (1, .int p1), (2, .int p2)]) hx hb dX7_servings_75 hl (by decide) rfl (fun ls hl => ?_)
              refine lv_iinc (v := (x5_11 + 1)) (lv' := [(5, .int (x5_11 + 1)), (4, .int v16), (6, .int (0 : Int32)), (0, .ref (aM 0)), (1, .int p1), (2, .int p2)]) hx hb dX7_servings_77 hl (k := 2) rfl rfl (by decide) rfl (fun ls hl => ?_)
              refine lv_goto (tgt := 11) hx hb dX7_servings_80 (by decide) ?_
              exact ih v16 (x5_11 + 1) M_11 _ _ hfu hR hP hD hS ls (lv_sub hl [1, 0, 3, 4, 5] rfl)
            · rw [if_neg c_15] at hR
              refine lv_aload_n hx hb dX7_servings_45 rfl (lv_at hl 2 rfl) ?_
              refine va_get (D := (dC, dI)) (ci := 7) (v := .ref (aM 7)) (C := RX7) (T := TX7) (N := 15) hx hb hts hin7 hown hK hP 0 rfl rfl 9 (by decide) (hw_ hts 2 rfl) (fun _ h9 => h9) rfl dX7_servings_46 ?_
              refine lv_iload hx hb dX7_servings_49 (lv_at hl 1 rfl) ?_
              obtain ⟨hix17, hR⟩ := ck_some hR
              refine va_iald (f := (M_11 9)) hx hb hK hP 7 0 rfl rfl hix17 dX7_servings_51 ?_
              refine lv_if_ne (tgt := 59) hx hb dX7_servings_52 (by decide) (fun c_18 => ?_) (fun c_18 => ?_)
              · rw [if_neg c_18] at hR
                refine lv_iconst (v := (0 : Int32)) hx hb dX7_servings_59 (by decide) ?_
                refine lv_istore (lv' := [(6, .int (0 : Int32)), (4, .int x4_11), (5, .int x5_11), (0, .ref (aM 0)), (1, .int p1), (2, .int p2)]) hx hb dX7_servings_60 hl (by decide) rfl (fun ls hl => ?_)
                refine lv_iload hx hb dX7_servings_62 (lv_at hl 1 rfl) ?_
                refine lv_iload hx hb dX7_servings_64 (lv_at hl 0 rfl) ?_
                refine lv_if_eq (tgt := 73) hx hb dX7_servings_66 (by decide) (fun _ => ?_) (fun q => absurd (by decide) q)
                refine lv_iconst (v := (0 : Int32)) hx hb dX7_servings_73 (by decide) ?_
                refine lv_iadd hx hb dX7_servings_74 ?_
                refine lv_topi (fun v19 hv19 => ?_)
                have hR := bd_n hv19 hR
                refine lv_istore (lv' := [(4, .int v19), (6, .int (0 : Int32)), (5, .int x5_11), (0, .ref (aM 0)), (1, .int p1), (2, .int p2)]) hx hb dX7_servings_75 hl (by decide) rfl (fun ls hl => ?_)
                refine lv_iinc (v := (x5_11 + 1)) (lv' := [(5, .int (x5_11 + 1)), (4, .int v19), (6, .int (0 : Int32)), (0, .ref (aM 0)), (1, .int p1), (2, .int p2)]) hx hb dX7_servings_77 hl (k := 2) rfl rfl (by decide) rfl (fun ls hl => ?_)
                refine lv_goto (tgt := 11) hx hb dX7_servings_80 (by decide) ?_
                exact ih v19 (x5_11 + 1) M_11 _ _ hfu hR hP hD hS ls (lv_sub hl [1, 0, 3, 4, 5] rfl)
              · rw [if_pos c_18] at hR
                refine lv_iconst (v := (1 : Int32)) hx hb dX7_servings_55 (by decide) ?_
                refine lv_goto (tgt := 60) hx hb dX7_servings_56 (by decide) ?_
                refine lv_istore (lv' := [(6, .int (1 : Int32)), (4, .int x4_11), (5, .int x5_11), (0, .ref (aM 0)), (1, .int p1), (2, .int p2)]) hx hb dX7_servings_60 hl (by decide) rfl (fun ls hl => ?_)
                refine lv_iload hx hb dX7_servings_62 (lv_at hl 1 rfl) ?_
                refine lv_iload hx hb dX7_servings_64 (lv_at hl 0 rfl) ?_
                refine lv_if_eq (tgt := 73) hx hb dX7_servings_66 (by decide) (fun q => absurd q (by decide)) (fun _ => ?_)
                refine lv_iconst (v := (1 : Int32)) hx hb dX7_servings_69 (by decide) ?_
                refine lv_goto (tgt := 74) hx hb dX7_servings_70 (by decide) ?_
                refine lv_iadd hx hb dX7_servings_74 ?_
                refine lv_topi (fun v20 hv20 => ?_)
                have hR := bd_n hv20 hR
                refine lv_istore (lv' := [(4, .int v20), (6, .int (1 : Int32)), (5, .int x5_11), (0, .ref (aM 0)), (1, .int p1), (2, .int p2)]) hx hb dX7_servings_75 hl (by decide) rfl (fun ls hl => ?_)
                refine lv_iinc (v := (x5_11 + 1)) (lv' := [(5, .int (x5_11 + 1)), (4, .int v20), (6, .int (1 : Int32)), (0, .ref (aM 0)), (1, .int p1), (2, .int p2)]) hx hb dX7_servings_77 hl (k := 2) rfl rfl (by decide) rfl (fun ls hl => ?_)
                refine lv_goto (tgt := 11) hx hb dX7_servings_80 (by decide) ?_
                exact ih v20 (x5_11 + 1) M_11 _ _ hfu hR hP hD hS ls (lv_sub hl [1, 0, 3, 4, 5] rfl)
  refine LOOP11 (fun x4_11 M_11 => (some (x4_11, M_11))) (fun x4_11 M_11 H2 locs hR hP hD hS ls hl => ?_) 84 (0 : Int32) (0 : Int32) u2 _ _ (by decide) hR hP hD hS ls (lv_sub hl [1, 0, 3, 4, 5] rfl)
  try dsimp only at hR
  refine lv_iload hx hb dX7_servings_83 (lv_at hl 0 rfl) ?_
  exact W.iret (v := x4_11) hx hb hr (fun t ht hW => ⟨⟨x4_11, M_11, rfl, Option.some.inj hR, P_at ht hP⟩, hS.F ht⟩) hS.2.2 dX7_servings_85
abbrev rm_X7_dishNow : Room := { frames := 6, cells := 0, slots := 0, locals := 140 }
abbrev q_X7_dishNow (dC : Nat → ClassId) (dI : Nat → Nat → Nat) (cI cZ cS : ClassId) (aM : Nat → Nat) (hs : Int64) (res : Int32 × Pic) (A : Nat → Prop) : Array Value → State → Outcome → State → Prop := va_Qi (fun (r : Int32) (u : Pic) => (r, u) = res) (fun u t => va_P (dC, dI) vwCl (wMo cI aM u hs) t.heap) A
set_option maxHeartbeats 4000000 in
set_option maxRecDepth 100000 in
theorem met_X7_dishNow (l : Launch) (dC : Nat → ClassId) (dI : Nat → Nat → Nat) (cI cZ cS : ClassId) (aM : Nat → Nat) (M : Pic) (hs : Int64) (sz : Nat) (p1 : Int32) (p2 : Int32) (res : Int32 × Pic) (hR : f7_dishNow M p1 p2 = some res) : Met l yX7_dishNow wsX7_dishNow rm_X7_dishNow (va_Pc [.ref (aM 0), .int p1, .int p2] (pW (dC, dI) (tyS cI cZ cS) (wMo cI aM M hs) sz)) (q_X7_dishNow dC dI cI cZ cS aM hs res (va_A (wMo cI aM M hs) sz)) 0 0 (va_A (wMo cI aM M hs) sz) := by
  refine Met.ofW (cc := cX7_dishNow) (maxL := 3) (ret := (some .int)) (by decide) rfl ?_
  intro p e s m args below meth c s₁ B hml hv
  obtain ⟨rfl, hsz, hP, hK, hD0, hN⟩ := hv
  have hx := B.exec
  have hb := B.bytes
  have hr := B.returns
  have hts := atoms_spec (ws := wsX7_dishNow) B.pre
  have hown : s.vm.findClass RX7 = some m.cls := findClass_of_methodNamed B.named
  have hlocks := B.notSynchronized
  subst hsz
  have hD := hD0.self (sz := s.heap.size)
  generalize hAe : va_A (wMo cI aM M hs) s.heap.size = A at hD ⊢
  have hA : ∀ q : Nat, s.heap.size ≤ q → A q := fun q h => by rw [← hAe]; exact Or.inr h
  have hS : va_S A s.heap s.heap [] := va_S.rf
  have hP : va_P (dC, dI) vwCl (wMo cI aM M hs) s.heap := hP
  rw [f7_dishNow] at hR
  have hl := lv_entry ([.ref (aM 0), .int p1, .int p2]) (n := 3) (Nat.le_of_ble_eq_true rfl)
  rw [lg_entry_eq]
  generalize (lg_sl ([.ref (aM 0), .int p1, .int p2]) ++ List.replicate (3 - (lg_sl ([.ref (aM 0), .int p1, .int p2])).length) Slot.unset).toArray = ls at hl ⊢
  have hl : lv_has ls 3 [(0, .ref (aM 0)), (1, .int p1), (2, .int p2)] := hl
  refine lv_iload_n hx hb dX7_dishNow_0 rfl (lv_at hl 2 rfl) ?_
  by_cases c_1 : p2 = 6
  · rw [if_pos c_1] at hR
    refine lv_tableIn (tgt := 28) hx hb dX7_dishNow_1 (by rw [c_1]; decide) (by rw [c_1]; decide) (by rw [c_1]; rfl) (by decide) ?_
    refine lv_aload_n hx hb dX7_dishNow_28 rfl (lv_at hl 0 rfl) ?_
    refine lv_iload_n hx hb dX7_dishNow_29 rfl (lv_at hl 1 rfl) ?_
    obtain ⟨r2, hc3, hR⟩ := ob1_e hR
    refine va_calli (va_runV (As := [.int p1]) (rest := []) ⟨hx, hb, hml, hown, hts⟩ (met_X7_isLeftover l dC dI cI cZ cS aM M hs s.heap.size p1 r2 hc3) (cwV 1 hts gX7_dishNow_X7_isLeftover rfl rfl rfl (by decide +kernel) ⟨Nat.le_of_ble_eq_true rfl, Nat.le_of_ble_eq_true rfl⟩) (pV (wc := wMo cI aM M hs) (ci := 7) (q0 := 0) hK hP hD hN [0, 1, 2, 3, 4, 5, 6, 7, 8] rfl (by decide) rfl rfl) rfl rfl hl.1 rfl (lv_room (Nat.le_of_ble_eq_true rfl)) dX7_dishNow_30 ⟨Nat.zero_le _, Nat.zero_le _⟩) hS (fun q _ h => a0_in hS hA q h) (a0_in hS hA) (fun r2 u t H1 locs ht hvm hw hB hz1 hk1 hS => ?_)
    obtain ⟨hw, nb4⟩ := hw
    cases hw
    have hP := rdk hP hk1
    refine lv_if_eq (tgt := 40) hx hb dX7_dishNow_33 (by decide) (fun c_5 => ?_) (fun c_5 => ?_)
    · rw [if_pos c_5] at hR
      refine lv_iconst (v := (0 : Int32)) hx hb dX7_dishNow_40 (by decide) ?_
      exact W.iret (v := (0 : Int32)) hx hb hr (fun t ht hW => ⟨⟨(0 : Int32), M, rfl, Option.some.inj hR, P_at ht hP⟩, hS.F ht⟩) hS.2.2 dX7_dishNow_41
    · rw [if_neg c_5] at hR
      refine lv_iconst (v := (1 : Int32)) hx hb dX7_dishNow_36 (by decide) ?_
      refine lv_goto (tgt := 41) hx hb dX7_dishNow_37 (by decide) ?_
      exact W.iret (v := (1 : Int32)) hx hb hr (fun t ht hW => ⟨⟨(1 : Int32), M, rfl, Option.some.inj hR, P_at ht hP⟩, hS.F ht⟩) hS.2.2 dX7_dishNow_41
  rw [if_neg c_1] at hR
  by_cases c_6 : p2 = 7
  · rw [if_pos c_6] at hR
    refine lv_tableIn (tgt := 42) hx hb dX7_dishNow_1 (by rw [c_6]; decide) (by rw [c_6]; decide) (by rw [c_6]; rfl) (by decide) ?_
    refine lv_aload_n hx hb dX7_dishNow_42 rfl (lv_at hl 0 rfl) ?_
    refine lv_iload_n hx hb dX7_dishNow_43 rfl (lv_at hl 1 rfl) ?_
    refine lv_iconst (v := (0 : Int32)) hx hb dX7_dishNow_44 (by decide) ?_
    obtain ⟨r7, u8, hc9, hR⟩ := ob2_e hR
    have hF := va_free (wc := wMo cI aM M hs) hD hS hA [0, 1, 2, 3, 4, 5, 6, 7, 8] rfl
    refine va_calli (va_runV (As := [.int p1, .int (0 : Int32)]) (rest := []) ⟨hx, hb, hml, hown, hts⟩ (met_X7_servings l dC dI cI cZ cS aM M hs s.heap.size p1 (0 : Int32) (r7, u8) hc9) (cwV 2 hts gX7_dishNow_X7_servings rfl rfl rfl (by decide +kernel) ⟨Nat.le_of_ble_eq_true rfl, Nat.le_of_ble_eq_true rfl⟩) (pV (wc := wMo cI aM M hs) (ci := 7) (q0 := 0) hK hP hD hN [0, 1, 2, 3, 4, 5, 6, 7, 8] rfl (by decide) rfl rfl) rfl rfl hl.1 rfl (lv_room (Nat.le_of_ble_eq_true rfl)) dX7_dishNow_45 ⟨Nat.zero_le _, Nat.zero_le _⟩) hS (fun q _ h => hF q h) hF (fun r7 u8 t H1 locs ht hvm hw hB hz1 hk1 hS => ?_)
    try dsimp only at hw hB
    rw [ht] at hB
    cases hw
    have hP := wrk (w2 := wMo cI aM u8 hs) hP hD [0, 1, 2, 3, 4, 5, 6, 7, 8] rfl (by decide) hk1 hB rfl rfl
    have hD := D_addr (w1 := wMo cI aM u8 hs) hD rfl
    exact W.iret (v := r7) hx hb hr (fun t ht hW => ⟨⟨r7, u8, rfl, Option.some.inj hR, P_at ht hP⟩, hS.F ht⟩) hS.2.2 dX7_dishNow_48
  rw [if_neg c_6] at hR
  by_cases c_10 : p2 = 8
  · rw [if_pos c_10] at hR
    refine lv_tableIn (tgt := 49) hx hb dX7_dishNow_1 (by rw [c_10]; decide) (by rw [c_10]; decide) (by rw [c_10]; rfl) (by decide) ?_
    refine lv_aload_n hx hb dX7_dishNow_49 rfl (lv_at hl 0 rfl) ?_
    refine lv_iload_n hx hb dX7_dishNow_50 rfl (lv_at hl 1 rfl) ?_
    refine lv_iconst (v := (1 : Int32)) hx hb dX7_dishNow_51 (by decide) ?_
    obtain ⟨r11, u12, hc13, hR⟩ := ob2_e hR
    have hF := va_free (wc := wMo cI aM M hs) hD hS hA [0, 1, 2, 3, 4, 5, 6, 7, 8] rfl
    refine va_calli (va_runV (As := [.int p1, .int (1 : Int32)]) (rest := []) ⟨hx, hb, hml, hown, hts⟩ (met_X7_servings l dC dI cI cZ cS aM M hs s.heap.size p1 (1 : Int32) (r11, u12) hc13) (cwV 2 hts gX7_dishNow_X7_servings rfl rfl rfl (by decide +kernel) ⟨Nat.le_of_ble_eq_true rfl, Nat.le_of_ble_eq_true rfl⟩) (pV (wc := wMo cI aM M hs) (ci := 7) (q0 := 0) hK hP hD hN [0, 1, 2, 3, 4, 5, 6, 7, 8] rfl (by decide) rfl rfl) rfl rfl hl.1 rfl (lv_room (Nat.le_of_ble_eq_true rfl)) dX7_dishNow_52 ⟨Nat.zero_le _, Nat.zero_le _⟩) hS (fun q _ h => hF q h) hF (fun r11 u12 t H1 locs ht hvm hw hB hz1 hk1 hS => ?_)
    try dsimp only at hw hB
    rw [ht] at hB
    cases hw
    have hP := wrk (w2 := wMo cI aM u12 hs) hP hD [0, 1, 2, 3, 4, 5, 6, 7, 8] rfl (by decide) hk1 hB rfl rfl
    have hD := D_addr (w1 := wMo cI aM u12 hs) hD rfl
    exact W.iret (v := r11) hx hb hr (fun t ht hW => ⟨⟨r11, u12, rfl, Option.some.inj hR, P_at ht hP⟩, hS.F ht⟩) hS.2.2 dX7_dishNow_55
  rw [if_neg c_10] at hR
  refine lv_tableOut (tgt := 56) hx hb dX7_dishNow_1 (sw_out [6, 7, 8] (fun z h1 h2 => by simp; omega) (List.forall_mem_cons.mpr ⟨lv_neT (a := 6) c_1 rfl, List.forall_mem_cons.mpr ⟨lv_neT (a := 7) c_6 rfl, List.forall_mem_cons.mpr ⟨lv_neT (a := 8) c_10 rfl, fun _ h => absurd h List.not_mem_nil⟩⟩⟩)) (by decide) ?_
  refine lv_aload_n hx hb dX7_dishNow_56 rfl (lv_at hl 0 rfl) ?_
  refine lv_iload_n hx hb dX7_dishNow_57 rfl (lv_at hl 1 rfl) ?_
  refine lv_iload_n hx hb dX7_dishNow_58 rfl (lv_at hl 2 rfl) ?_
  obtain ⟨r14, hc15, hR⟩ := ob1_e hR
  refine va_calli (va_runV (As := [.int p1, .int p2]) (rest := []) ⟨hx, hb, hml, hown, hts⟩ (met_X7_of l dC dI cI cZ cS aM M hs s.heap.size p1 p2 r14 hc15) (cwV 2 hts gX7_dishNow_X7_of rfl rfl rfl (by decide +kernel) ⟨Nat.le_of_ble_eq_true rfl, Nat.le_of_ble_eq_true rfl⟩) (pV (wc := wMo cI aM M hs) (ci := 7) (q0 := 0) hK hP hD hN [0, 1, 2, 3, 4, 5, 6, 7, 8] rfl (by decide) rfl rfl) rfl rfl hl.1 rfl (lv_room (Nat.le_of_ble_eq_true rfl)) dX7_dishNow_59 ⟨Nat.zero_le _, Nat.zero_le _⟩) hS (fun q _ h => a0_in hS hA q h) (a0_in hS hA) (fun r14 u t H1 locs ht hvm hw hB hz1 hk1 hS => ?_)
  cases hw
  have hP := rdk hP hk1
  exact W.iret (v := r14) hx hb hr (fun t ht hW => ⟨⟨r14, M, rfl, Option.some.inj hR, P_at ht hP⟩, hS.F ht⟩) hS.2.2 dX7_dishNow_62
abbrev rm_X7_dish : Room := { frames := 7, cells := 0, slots := 0, locals := 162 }
abbrev q_X7_dish (dC : Nat → ClassId) (dI : Nat → Nat → Nat) (cI cZ cS : ClassId) (aM : Nat → Nat) (hs : Int64) (res : Int32 × Pic) (A : Nat → Prop) : Array Value → State → Outcome → State → Prop := va_Qi (fun (r : Int32) (u : Pic) => (r, u) = res) (fun u t => va_P (dC, dI) vwCl (wMo cI aM u hs) t.heap) A
set_option maxHeartbeats 4000000 in
set_option maxRecDepth 100000 in
theorem met_X7_dish (l : Launch) (dC : Nat → ClassId) (dI : Nat → Nat → Nat) (cI cZ cS : ClassId) (aM : Nat → Nat) (M : Pic) (hs : Int64) (sz : Nat) (p1 : Int32) (p2 : Int32) (res : Int32 × Pic) (hR : f7_dish M p1 p2 = some res) : Met l yX7_dish wsX7_dish rm_X7_dish (va_Pc [.ref (aM 0), .int p1, .int p2] (pW (dC, dI) (tyS cI cZ cS) (wMo cI aM M hs) sz)) (q_X7_dish dC dI cI cZ cS aM hs res (va_A (wMo cI aM M hs) sz)) 0 0 (va_A (wMo cI aM M hs) sz) := by
  refine Met.ofW (cc := cX7_dish) (maxL := 3) (ret := (some .int)) (by decide) rfl ?_
  intro p e s m args below meth c s₁ B hml hv
  obtain ⟨rfl, hsz, hP, hK, hD0, hN⟩ := hv
  have hx := B.exec
  have hb := B.bytes
  have hr := B.returns
  have hts := atoms_spec (ws := wsX7_dish) B.pre
  have hown : s.vm.findClass RX7 = some m.cls := findClass_of_methodNamed B.named
  have hlocks := B.notSynchronized
  subst hsz
  have hD := hD0.self (sz := s.heap.size)
  generalize hAe : va_A (wMo cI aM M hs) s.heap.size = A at hD ⊢
  have hA : ∀ q : Nat, s.heap.size ≤ q → A q := fun q h => by rw [← hAe]; exact Or.inr h
  have hS : va_S A s.heap s.heap [] := va_S.rf
  have hP : va_P (dC, dI) vwCl (wMo cI aM M hs) s.heap := hP
  rw [f7_dish] at hR
  have hin7 : ∀ w ∈ wsX70, w ∈ wsX7_dish := by decide +kernel
  have hl := lv_entry ([.ref (aM 0), .int p1, .int p2]) (n := 3) (Nat.le_of_ble_eq_true rfl)
  rw [lg_entry_eq]
  generalize (lg_sl ([.ref (aM 0), .int p1, .int p2]) ++ List.replicate (3 - (lg_sl ([.ref (aM 0), .int p1, .int p2])).length) Slot.unset).toArray = ls at hl ⊢
  have hl : lv_has ls 3 [(0, .ref (aM 0)), (1, .int p1), (2, .int p2)] := hl
  refine lv_aload_n hx hb dX7_dish_0 rfl (lv_at hl 0 rfl) ?_
  refine lv_aload_n hx hb dX7_dish_1 rfl (lv_at hl 0 rfl) ?_
  refine lv_iload_n hx hb dX7_dish_2 rfl (lv_at hl 1 rfl) ?_
  refine va_calli (va_runV (As := [.int p1]) (rest := [.ref (aM 0)]) ⟨hx, hb, hml, hown, hts⟩ (met_X7_isDish l dC dI cI cZ cS aM M hs s.heap.size p1) (cwV 1 hts gX7_dish_X7_isDish rfl rfl rfl (by decide +kernel) ⟨Nat.le_of_ble_eq_true rfl, Nat.le_of_ble_eq_true rfl⟩) (pV (wc := wMo cI aM M hs) (ci := 7) (q0 := 0) hK hP hD hN [0, 1, 2, 3, 4, 5, 6, 7, 8] rfl (by decide) rfl rfl) rfl rfl hl.1 rfl (lv_room (Nat.le_of_ble_eq_true rfl)) dX7_dish_3 ⟨Nat.zero_le _, Nat.zero_le _⟩) hS (fun q _ h => a0_in hS hA q h) (a0_in hS hA) (fun r1 u t H1 locs ht hvm hw hB hz1 hk1 hS => ?_)
  obtain ⟨hw, nb2⟩ := hw
  subst hw
  have hP := rdk hP hk1
  refine lv_if_ne (tgt := 13) hx hb dX7_dish_6 (by decide) (fun c_3 => ?_) (fun c_3 => ?_)
  · rw [if_neg c_3] at hR
    refine lv_iload_n hx hb dX7_dish_13 rfl (lv_at hl 2 rfl) ?_
    refine lv_iconst (v := (0 : Int32)) hx hb dX7_dish_14 (by decide) ?_
    refine lv_bipush (v := (8 : Int32)) hx hb dX7_dish_15 (by decide) ?_
    refine va_calli (va_runS (As := [.int p2, .int (0 : Int32), .int (8 : Int32)]) (rest := [.ref (aM 0)]) ⟨hx, hb, hml, hown, hts⟩ (met_X7_within l dC dI cI cZ cS H1.size p2 (0 : Int32) (8 : Int32)) (va_cwS 3 hts gX7_dish_X7_within rfl rfl rfl (by decide +kernel) ⟨Nat.le_of_ble_eq_true rfl, Nat.le_of_ble_eq_true rfl⟩) (pS (wc := []) hK hP hD hN [] rfl (by decide)) rfl rfl hl.1 rfl (lv_room (Nat.le_of_ble_eq_true rfl)) dX7_dish_17 ⟨Nat.zero_le _, Nat.zero_le _⟩) hS (fun q _ h => a0_in hS hA q h) (a0_in hS hA) (fun r4 u t H2 locs ht hvm hw hB hz1 hk1 hS => ?_)
    obtain ⟨hw, nb5⟩ := hw
    subst hw
    have hP := rdk hP hk1
    refine lv_if_eq (tgt := 27) hx hb dX7_dish_20 (by decide) (fun c_6 => ?_) (fun c_6 => ?_)
    · rw [if_pos c_6] at hR
      refine lv_iconst (v := (2 : Int32)) hx hb dX7_dish_27 (by decide) ?_
      refine va_put (D := (dC, dI)) (ci := 7) (v := .int (2 : Int32)) (ty := .int) (C := RX7) (T := TX7) (N := 15) hx hb hts hin7 tyX7 tyX7_ok nmX7 hown hK hP hD hS 0 rfl rfl 7 (by decide) (hw_ hts 1 rfl) (fun _ h9 => h9) rfl (by decide +kernel) rfl rfl (Nat.le_of_ble_eq_true rfl) dX7_dish_28 (fun H3 locs hP hD hS => ?_)
      have hP : va_P (dC, dI) vwCl (wMo cI aM (pset M 7 (fun _ => (2 : Int32))) hs) H3 := hP
      have hD : va_D A (wMo cI aM (pset M 7 (fun _ => (2 : Int32))) hs) := hD
      refine lv_aload_n hx hb dX7_dish_31 rfl (lv_at hl 0 rfl) ?_
      refine va_get (D := (dC, dI)) (ci := 7) (v := .int (2 : Int32)) (C := RX7) (T := TX7) (N := 15) hx hb hts hin7 hown hK hP 0 rfl rfl 7 (by decide) (hw_ hts 1 rfl) (fun _ h9 => h9) rfl dX7_dish_32 ?_
      refine lv_if_le (tgt := 42) hx hb dX7_dish_35 (by decide) (fun q => absurd q (by decide)) (fun _ => ?_)
      refine lv_iconst (v := (0 : Int32)) hx hb dX7_dish_38 (by decide) ?_
      refine lv_goto (tgt := 48) hx hb dX7_dish_39 (by decide) ?_
      exact W.iret (v := (0 : Int32)) hx hb hr (fun t ht hW => ⟨⟨(0 : Int32), (pset M 7 (fun _ => (2 : Int32))), rfl, Option.some.inj hR, P_at ht hP⟩, hS.F ht⟩) hS.2.2 dX7_dish_48
    · rw [if_neg c_6] at hR
      refine lv_iconst (v := (0 : Int32)) hx hb dX7_dish_23 (by decide) ?_
      refine lv_goto (tgt := 28) hx hb dX7_dish_24 (by decide) ?_
      refine va_put (D := (dC, dI)) (ci := 7) (v := .int (0 : Int32)) (ty := .int) (C := RX7) (T := TX7) (N := 15) hx hb hts hin7 tyX7 tyX7_ok nmX7 hown hK hP hD hS 0 rfl rfl 7 (by decide) (hw_ hts 1 rfl) (fun _ h9 => h9) rfl (by decide +kernel) rfl rfl (Nat.le_of_ble_eq_true rfl) dX7_dish_28 (fun H3 locs hP hD hS => ?_)
      have hP : va_P (dC, dI) vwCl (wMo cI aM (pset M 7 (fun _ => (0 : Int32))) hs) H3 := hP
      have hD : va_D A (wMo cI aM (pset M 7 (fun _ => (0 : Int32))) hs) := hD
      refine lv_aload_n hx hb dX7_dish_31 rfl (lv_at hl 0 rfl) ?_
      refine va_get (D := (dC, dI)) (ci := 7) (v := .int (0 : Int32)) (C := RX7) (T := TX7) (N := 15) hx hb hts hin7 hown hK hP 0 rfl rfl 7 (by decide) (hw_ hts 1 rfl) (fun _ h9 => h9) rfl dX7_dish_32 ?_
      refine lv_if_le (tgt := 42) hx hb dX7_dish_35 (by decide) (fun _ => ?_) (fun q => absurd (by decide) q)
      refine lv_aload_n hx hb dX7_dish_42 rfl (lv_at hl 0 rfl) ?_
      refine lv_iload_n hx hb dX7_dish_43 rfl (lv_at hl 1 rfl) ?_
      refine lv_iload_n hx hb dX7_dish_44 rfl (lv_at hl 2 rfl) ?_
      obtain ⟨r7, u8, hc9, hR⟩ := ob2_e hR
      have hF := va_free (wc := wMo cI aM (pset M 7 (fun _ => (0 : Int32))) hs) hD hS hA [0, 1, 2, 3, 4, 5, 6, 7, 8] rfl
      refine va_calli (va_runV (As := [.int p1, .int p2]) (rest := []) ⟨hx, hb, hml, hown, hts⟩ (met_X7_dishNow l dC dI cI cZ cS aM (pset M 7 (fun _ => (0 : Int32))) hs H3.size p1 p2 (r7, u8) hc9) (cwV 2 hts gX7_dish_X7_dishNow rfl rfl rfl (by decide +kernel) ⟨Nat.le_of_ble_eq_true rfl, Nat.le_of_ble_eq_true rfl⟩) (pV (wc := wMo cI aM (pset M 7 (fun _ => (0 : Int32))) hs) (ci := 7) (q0 := 0) hK hP hD hN [0, 1, 2, 3, 4, 5, 6, 7, 8] rfl (by decide) rfl rfl) rfl rfl hl.1 rfl (lv_room (Nat.le_of_ble_eq_true rfl)) dX7_dish_45 ⟨Nat.zero_le _, Nat.zero_le _⟩) hS (fun q _ h => hF q h) hF (fun r7 u8 t H4 locs ht hvm hw hB hz1 hk1 hS => ?_)
      try dsimp only at hw hB
      rw [ht] at hB
      cases hw
      have hP := wrk (w2 := wMo cI aM u8 hs) hP hD [0, 1, 2, 3, 4, 5, 6, 7, 8] rfl (by decide) hk1 hB rfl rfl
      have hD := D_addr (w1 := wMo cI aM u8 hs) hD rfl
      exact W.iret (v := r7) hx hb hr (fun t ht hW => ⟨⟨r7, u8, rfl, Option.some.inj hR, P_at ht hP⟩, hS.F ht⟩) hS.2.2 dX7_dish_48
  · rw [if_pos c_3] at hR
    refine lv_iconst (v := (1 : Int32)) hx hb dX7_dish_9 (by decide) ?_
    refine lv_goto (tgt := 28) hx hb dX7_dish_10 (by decide) ?_
    refine va_put (D := (dC, dI)) (ci := 7) (v := .int (1 : Int32)) (ty := .int) (C := RX7) (T := TX7) (N := 15) hx hb hts hin7 tyX7 tyX7_ok nmX7 hown hK hP hD hS 0 rfl rfl 7 (by decide) (hw_ hts 1 rfl) (fun _ h9 => h9) rfl (by decide +kernel) rfl rfl (Nat.le_of_ble_eq_true rfl) dX7_dish_28 (fun H2 locs hP hD hS => ?_)
    have hP : va_P (dC, dI) vwCl (wMo cI aM (pset M 7 (fun _ => (1 : Int32))) hs) H2 := hP
    have hD : va_D A (wMo cI aM (pset M 7 (fun _ => (1 : Int32))) hs) := hD
    refine lv_aload_n hx hb dX7_dish_31 rfl (lv_at hl 0 rfl) ?_
    refine va_get (D := (dC, dI)) (ci := 7) (v := .int (1 : Int32)) (C := RX7) (T := TX7) (N := 15) hx hb hts hin7 hown hK hP 0 rfl rfl 7 (by decide) (hw_ hts 1 rfl) (fun _ h9 => h9) rfl dX7_dish_32 ?_
    refine lv_if_le (tgt := 42) hx hb dX7_dish_35 (by decide) (fun q => absurd q (by decide)) (fun _ => ?_)
    refine lv_iconst (v := (0 : Int32)) hx hb dX7_dish_38 (by decide) ?_
    refine lv_goto (tgt := 48) hx hb dX7_dish_39 (by decide) ?_
    exact W.iret (v := (0 : Int32)) hx hb hr (fun t ht hW => ⟨⟨(0 : Int32), (pset M 7 (fun _ => (1 : Int32))), rfl, Option.some.inj hR, P_at ht hP⟩, hS.F ht⟩) hS.2.2 dX7_dish_48
abbrev rm_X7_dishesOf : Room := { frames := 1, cells := 0, slots := 0, locals := 22 }
abbrev q_X7_dishesOf (dC : Nat → ClassId) (dI : Nat → Nat → Nat) (cI cZ cS : ClassId) (aM : Nat → Nat)  (res : Int32) (A : Nat → Prop) : Array Value → State → Outcome → State → Prop := va_Qi (fun (r : Int32) (u : Unit) => r = res) (fun _ _ => True) A
set_option maxHeartbeats 4000000 in
set_option maxRecDepth 100000 in
theorem met_X7_dishesOf (l : Launch) (dC : Nat → ClassId) (dI : Nat → Nat → Nat) (cI cZ cS : ClassId) (aM : Nat → Nat) (M : Pic) (hs : Int64) (sz : Nat) (p1 : Int32) (res : Int32) (hR : f7_dishesOf M p1 = some res) : Met l yX7_dishesOf wsX7_dishesOf rm_X7_dishesOf (va_Pc [.ref (aM 0), .int p1] (pW (dC, dI) (tyS cI cZ cS) (wMo cI aM M hs) sz)) (q_X7_dishesOf dC dI cI cZ cS aM res (a0 sz)) 0 0 (a0 sz) := by
  refine Met.ofW (cc := cX7_dishesOf) (maxL := 2) (ret := (some .int)) (by decide) rfl ?_
  intro p e s m args below meth c s₁ B hml hv
  obtain ⟨rfl, hsz, hP, hK, hD0, hN⟩ := hv
  have hx := B.exec
  have hb := B.bytes
  have hr := B.returns
  have hts := atoms_spec (ws := wsX7_dishesOf) B.pre
  have hown : s.vm.findClass RX7 = some m.cls := findClass_of_methodNamed B.named
  have hlocks := B.notSynchronized
  subst hsz
  have hD := hD0
  have hA : ∀ q : Nat, s.heap.size ≤ q → a0 s.heap.size q := fun q h => Or.inr h
  have hS : va_S (a0 s.heap.size) s.heap s.heap [] := va_S.rf
  have hP : va_P (dC, dI) vwCl (wMo cI aM M hs) s.heap := hP
  rw [f7_dishesOf] at hR
  have hl := lv_entry ([.ref (aM 0), .int p1]) (n := 2) (Nat.le_of_ble_eq_true rfl)
  rw [lg_entry_eq]
  generalize (lg_sl ([.ref (aM 0), .int p1]) ++ List.replicate (2 - (lg_sl ([.ref (aM 0), .int p1])).length) Slot.unset).toArray = ls at hl ⊢
  have hl : lv_has ls 2 [(0, .ref (aM 0)), (1, .int p1)] := hl
  refine lv_aload_n hx hb dX7_dishesOf_0 rfl (lv_at hl 0 rfl) ?_
  refine lv_iload_n hx hb dX7_dishesOf_1 rfl (lv_at hl 1 rfl) ?_
  refine lv_iconst (v := (0 : Int32)) hx hb dX7_dishesOf_2 (by decide) ?_
  obtain ⟨r1, hc2, hR⟩ := ob1_e hR
  refine va_calli (va_runV (As := [.int p1, .int (0 : Int32)]) (rest := []) ⟨hx, hb, hml, hown, hts⟩ (met_X7_at l dC dI cI cZ cS aM M hs s.heap.size p1 (0 : Int32) r1 hc2) (cwV 2 hts gX7_dishesOf_X7_at rfl rfl rfl (by decide +kernel) ⟨Nat.le_of_ble_eq_true rfl, Nat.le_of_ble_eq_true rfl⟩) (pV (wc := wMo cI aM M hs) (ci := 7) (q0 := 0) hK hP hD hN [0, 1, 2, 3, 4, 5, 6, 7, 8] rfl (by decide) rfl rfl) rfl rfl hl.1 rfl (lv_room (Nat.le_of_ble_eq_true rfl)) dX7_dishesOf_3 ⟨Nat.zero_le _, Nat.zero_le _⟩) hS (fun q _ h => a0_in hS hA q h) (a0_in hS hA) (fun r1 u t H1 locs ht hvm hw hB hz1 hk1 hS => ?_)
  cases hw
  have hP := rdk hP hk1
  refine va_calli (va_runS (As := [.int r1]) (rest := []) ⟨hx, hb, hml, hown, hts⟩ (met_X7_many l dC dI cI cZ cS H1.size r1) (va_cwS 1 hts gX7_dishesOf_X7_many rfl rfl rfl (by decide +kernel) ⟨Nat.le_of_ble_eq_true rfl, Nat.le_of_ble_eq_true rfl⟩) (pS (wc := []) hK hP hD hN [] rfl (by decide)) rfl rfl hl.1 rfl (lv_room (Nat.le_of_ble_eq_true rfl)) dX7_dishesOf_6 ⟨Nat.zero_le _, Nat.zero_le _⟩) hS (fun q _ h => a0_in hS hA q h) (a0_in hS hA) (fun r3 u t H2 locs ht hvm hw hB hz1 hk1 hS => ?_)
  subst hw
  have hP := rdk hP hk1
  refine lv_aload_n hx hb dX7_dishesOf_9 rfl (lv_at hl 0 rfl) ?_
  refine lv_iload_n hx hb dX7_dishesOf_10 rfl (lv_at hl 1 rfl) ?_
  refine lv_iconst (v := (1 : Int32)) hx hb dX7_dishesOf_11 (by decide) ?_
  obtain ⟨r4, hc5, hR⟩ := ob1_e hR
  refine va_calli (va_runV (As := [.int p1, .int (1 : Int32)]) (rest := [.int (f7_many r1)]) ⟨hx, hb, hml, hown, hts⟩ (met_X7_at l dC dI cI cZ cS aM M hs H2.size p1 (1 : Int32) r4 hc5) (cwV 2 hts gX7_dishesOf_X7_at rfl rfl rfl (by decide +kernel) ⟨Nat.le_of_ble_eq_true rfl, Nat.le_of_ble_eq_true rfl⟩) (pV (wc := wMo cI aM M hs) (ci := 7) (q0 := 0) hK hP hD hN [0, 1, 2, 3, 4, 5, 6, 7, 8] rfl (by decide) rfl rfl) rfl rfl hl.1 rfl (lv_room (Nat.le_of_ble_eq_true rfl)) dX7_dishesOf_12 ⟨Nat.zero_le _, Nat.zero_le _⟩) hS (fun q _ h => a0_in hS hA q h) (a0_in hS hA) (fun r4 u t H3 locs ht hvm hw hB hz1 hk1 hS => ?_)
  cases hw
  have hP := rdk hP hk1
  refine va_calli (va_runS (As := [.int r4]) (rest := [.int (f7_many r1)]) ⟨hx, hb, hml, hown, hts⟩ (met_X7_many l dC dI cI cZ cS H3.size r4) (va_cwS 1 hts gX7_dishesOf_X7_many rfl rfl rfl (by decide +kernel) ⟨Nat.le_of_ble_eq_true rfl, Nat.le_of_ble_eq_true rfl⟩) (pS (wc := []) hK hP hD hN [] rfl (by decide)) rfl rfl hl.1 rfl (lv_room (Nat.le_of_ble_eq_true rfl)) dX7_dishesOf_15 ⟨Nat.zero_le _, Nat.zero_le _⟩) hS (fun q _ h => a0_in hS hA q h) (a0_in hS hA) (fun r6 u t H4 locs ht hvm hw hB hz1 hk1 hS => ?_)
  subst hw
  have hP := rdk hP hk1
  refine lv_iadd hx hb dX7_dishesOf_18 ?_
  refine lv_aload_n hx hb dX7_dishesOf_19 rfl (lv_at hl 0 rfl) ?_
  refine lv_iload_n hx hb dX7_dishesOf_20 rfl (lv_at hl 1 rfl) ?_
  refine lv_iconst (v := (2 : Int32)) hx hb dX7_dishesOf_21 (by decide) ?_
  obtain ⟨r7, hc8, hR⟩ := ob1_e hR
  refine va_calli (va_runV (As := [.int p1, .int (2 : Int32)]) (rest := [.int ((f7_many r1) + (f7_many r4))]) ⟨hx, hb, hml, hown, hts⟩ (met_X7_at l dC dI cI cZ cS aM M hs H4.size p1 (2 : Int32) r7 hc8) (cwV 2 hts gX7_dishesOf_X7_at rfl rfl rfl (by decide +kernel) ⟨Nat.le_of_ble_eq_true rfl, Nat.le_of_ble_eq_true rfl⟩) (pV (wc := wMo cI aM M hs) (ci := 7) (q0 := 0) hK hP hD hN [0, 1, 2, 3, 4, 5, 6, 7, 8] rfl (by decide) rfl rfl) rfl rfl hl.1 rfl (lv_room (Nat.le_of_ble_eq_true rfl)) dX7_dishesOf_22 ⟨Nat.zero_le _, Nat.zero_le _⟩) hS (fun q _ h => a0_in hS hA q h) (a0_in hS hA) (fun r7 u t H5 locs ht hvm hw hB hz1 hk1 hS => ?_)
  cases hw
  have hP := rdk hP hk1
  refine va_calli (va_runS (As := [.int r7]) (rest := [.int ((f7_many r1) + (f7_many r4))]) ⟨hx, hb, hml, hown, hts⟩ (met_X7_many l dC dI cI cZ cS H5.size r7) (va_cwS 1 hts gX7_dishesOf_X7_many rfl rfl rfl (by decide +kernel) ⟨Nat.le_of_ble_eq_true rfl, Nat.le_of_ble_eq_true rfl⟩) (pS (wc := []) hK hP hD hN [] rfl (by decide)) rfl rfl hl.1 rfl (lv_room (Nat.le_of_ble_eq_true rfl)) dX7_dishesOf_25 ⟨Nat.zero_le _, Nat.zero_le _⟩) hS (fun q _ h => a0_in hS hA q h) (a0_in hS hA) (fun r9 u t H6 locs ht hvm hw hB hz1 hk1 hS => ?_)
  subst hw
  have hP := rdk hP hk1
  refine lv_iadd hx hb dX7_dishesOf_28 ?_
  exact W.iret (v := (((f7_many r1) + (f7_many r4)) + (f7_many r7))) hx hb hr (fun t ht hW => ⟨⟨(((f7_many r1) + (f7_many r4)) + (f7_many r7)), (), rfl, Option.some.inj hR, trivial⟩, hS.F ht⟩) hS.2.2 dX7_dishesOf_29
abbrev rm_X7_guestNow : Room := { frames := 2, cells := 0, slots := 0, locals := 43 }
abbrev q_X7_guestNow (dC : Nat → ClassId) (dI : Nat → Nat → Nat) (cI cZ cS : ClassId) (aM : Nat → Nat)  (res : Int32) (A : Nat → Prop) : Array Value → State → Outcome → State → Prop := va_Qi (fun (r : Int32) (u : Unit) => r = res) (fun _ _ => True) A
set_option maxHeartbeats 4000000 in
set_option maxRecDepth 100000 in
theorem met_X7_guestNow (l : Launch) (dC : Nat → ClassId) (dI : Nat → Nat → Nat) (cI cZ cS : ClassId) (aM : Nat → Nat) (M : Pic) (hs : Int64) (sz : Nat) (p1 : Int32) (p2 : Int32) (res : Int32) (hR : f7_guestNow M p1 p2 = some res) : Met l yX7_guestNow wsX7_guestNow rm_X7_guestNow (va_Pc [.ref (aM 0), .int p1, .int p2] (pW (dC, dI) (tyS cI cZ cS) (wMo cI aM M hs) sz)) (q_X7_guestNow dC dI cI cZ cS aM res (a0 sz)) 0 0 (a0 sz) := by
  refine Met.ofW (cc := cX7_guestNow) (maxL := 5) (ret := (some .int)) (by decide) rfl ?_
  intro p e s m args below meth c s₁ B hml hv
  obtain ⟨rfl, hsz, hP, hK, hD0, hN⟩ := hv
  have hx := B.exec
  have hb := B.bytes
  have hr := B.returns
  have hts := atoms_spec (ws := wsX7_guestNow) B.pre
  have hown : s.vm.findClass RX7 = some m.cls := findClass_of_methodNamed B.named
  have hlocks := B.notSynchronized
  subst hsz
  have hD := hD0
  have hA : ∀ q : Nat, s.heap.size ≤ q → a0 s.heap.size q := fun q h => Or.inr h
  have hS : va_S (a0 s.heap.size) s.heap s.heap [] := va_S.rf
  have hP : va_P (dC, dI) vwCl (wMo cI aM M hs) s.heap := hP
  rw [f7_guestNow] at hR
  have hl := lv_entry ([.ref (aM 0), .int p1, .int p2]) (n := 5) (Nat.le_of_ble_eq_true rfl)
  rw [lg_entry_eq]
  generalize (lg_sl ([.ref (aM 0), .int p1, .int p2]) ++ List.replicate (5 - (lg_sl ([.ref (aM 0), .int p1, .int p2])).length) Slot.unset).toArray = ls at hl ⊢
  have hl : lv_has ls 5 [(0, .ref (aM 0)), (1, .int p1), (2, .int p2)] := hl
  refine lv_iload_n hx hb dX7_guestNow_0 rfl (lv_at hl 2 rfl) ?_
  refine lv_iconst (v := (2 : Int32)) hx hb dX7_guestNow_1 (by decide) ?_
  refine lv_icmp_ge (tgt := 12) hx hb dX7_guestNow_2 (by decide) (fun c_1 => ?_) (fun c_1 => ?_)
  · rw [if_pos c_1] at hR
    refine lv_iconst (v := (0 : Int32)) hx hb dX7_guestNow_12 (by decide) ?_
    refine lv_istore_n (lv' := [(3, .int (0 : Int32)), (0, .ref (aM 0)), (1, .int p1), (2, .int p2)]) hx hb dX7_guestNow_13 rfl hl (by decide) rfl (fun ls hl => ?_)
    refine lv_iconst (v := (0 : Int32)) hx hb dX7_guestNow_14 (by decide) ?_
    refine lv_istore (lv' := [(4, .int (0 : Int32)), (3, .int (0 : Int32)), (0, .ref (aM 0)), (1, .int p1), (2, .int p2)]) hx hb dX7_guestNow_15 hl (by decide) rfl (fun ls hl => ?_)
    have LOOP17 : ∀ (k : Int32 → (Option (Int32))), (∀ (x3_17 : Int32) (H1 : Heap) (locs : List Loc), k x3_17 = some res → va_P (dC, dI) vwCl (wMo cI aM M hs) H1 → va_D (fun _ => True) (wMo cI aM M hs) → va_S (a0 s.heap.size) s.heap H1 locs → ∀ (ls : Array Slot), lv_has ls 5 [(3, .int x3_17)] → W p l e (headSpec wsX7_guestNow rm_X7_guestNow).room s m ([.ref (aM 0), .int p1, .int p2] : List Value).toArray below meth c H1 locs 0 0 (MQ below (q_X7_guestNow dC dI cI cZ cS aM res (a0 s.heap.size)) ([.ref (aM 0), .int p1, .int p2] : List Value).toArray s 0 0 (a0 s.heap.size)) (F0 m 60 ls [])) → ∀ (nf : Nat) (x3_17 : Int32) (x4_17 : Int32) (H1 : Heap) (locs : List Loc), ((28 : Int32)).toInt - (x4_17).toInt ≤ (nf : Int) → f7_guestNow_L17 M p1 nf x3_17 x4_17 k = some res → va_P (dC, dI) vwCl (wMo cI aM M hs) H1 → va_D (fun _ => True) (wMo cI aM M hs) → va_S (a0 s.heap.size) s.heap H1 locs → ∀ (ls : Array Slot), lv_has ls 5 [(3, .int x3_17), (4, .int x4_17), (0, .ref (aM 0)), (1, .int p1)] → W p l e (headSpec wsX7_guestNow rm_X7_guestNow).room s m ([.ref (aM 0), .int p1, .int p2] : List Value).toArray below meth c H1 locs 0 0 (MQ below (q_X7_guestNow dC dI cI cZ cS aM res (a0 s.heap.size)) ([.ref (aM 0), .int p1, .int p2] : List Value).toArray s 0 0 (a0 s.heap.size)) (F0 m 17 ls []) := by
      intro k hk nf
      induction nf with
      | zero =>
        intro x3_17 x4_17 H1 locs hfu hR hP hD hS ls hl
        rw [f7_guestNow_L17] at hR
        refine lv_iload hx hb dX7_guestNow_17 (lv_at hl 1 rfl) ?_
        refine lv_bipush (v := (28 : Int32)) hx hb dX7_guestNow_19 (by decide) ?_
        refine lv_icmp_ge (tgt := 60) hx hb dX7_guestNow_21 (by decide) (fun c_2 => ?_) (fun c_2 => ?_)
        · skip
          exact hk x3_17 _ _  hR hP hD hS ls (lv_sub hl [0] rfl)
        · exact (fuel0 hfu c_2).elim
      | succ nf ih =>
        intro x3_17 x4_17 H1 locs hfu hR hP hD hS ls hl
        rw [f7_guestNow_L17] at hR
        refine lv_iload hx hb dX7_guestNow_17 (lv_at hl 1 rfl) ?_
        refine lv_bipush (v := (28 : Int32)) hx hb dX7_guestNow_19 (by decide) ?_
        refine lv_icmp_ge (tgt := 60) hx hb dX7_guestNow_21 (by decide) (fun c_3 => ?_) (fun c_3 => ?_)
        · rw [if_pos c_3] at hR
          exact hk x3_17 _ _  hR hP hD hS ls (lv_sub hl [0] rfl)
        · rw [if_neg c_3] at hR
          have hfu := fuelS hfu c_3
          refine lv_iload_n hx hb dX7_guestNow_24 rfl (lv_at hl 0 rfl) ?_
          refine lv_aload_n hx hb dX7_guestNow_25 rfl (lv_at hl 2 rfl) ?_
          refine lv_iload_n hx hb dX7_guestNow_26 rfl (lv_at hl 3 rfl) ?_
          refine lv_iconst (v := (0 : Int32)) hx hb dX7_guestNow_27 (by decide) ?_
          obtain ⟨r4, hc5, hR⟩ := ob1_e hR
          refine va_calli (va_runV (As := [.int p1, .int (0 : Int32)]) (rest := [.int x3_17]) ⟨hx, hb, hml, hown, hts⟩ (met_X7_ofGuest l dC dI cI cZ cS aM M hs H1.size p1 (0 : Int32) r4 hc5) (cwV 2 hts gX7_guestNow_X7_ofGuest rfl rfl rfl (by decide +kernel) ⟨Nat.le_of_ble_eq_true rfl, Nat.le_of_ble_eq_true rfl⟩) (pV (wc := wMo cI aM M hs) (ci := 7) (q0 := 0) hK hP hD hN [0, 1, 2, 3, 4, 5, 6, 7, 8] rfl (by decide) rfl rfl) rfl rfl hl.1 rfl (lv_room (Nat.le_of_ble_eq_true rfl)) dX7_guestNow_28 ⟨Nat.zero_le _, Nat.zero_le _⟩) hS (fun q _ h => a0_in hS hA q h) (a0_in hS hA) (fun r4 u t H2 locs ht hvm hw hB hz1 hk1 hS => ?_)
          cases hw
          have hP := rdk hP hk1
          refine lv_iload hx hb dX7_guestNow_31 (lv_at hl 1 rfl) ?_
          refine lv_bipush (v := (7 : Int32)) hx hb dX7_guestNow_33 (by decide) ?_
          refine lv_irem hx hb dX7_guestNow_35 (by decide) ?_
          refine va_calli (va_runS (As := [.int r4, .int (x4_17 - x4_17 / (7 : Int32) * (7 : Int32))]) (rest := [.int x3_17]) ⟨hx, hb, hml, hown, hts⟩ (met_X7_has l dC dI cI cZ cS H2.size r4 (x4_17 - x4_17 / (7 : Int32) * (7 : Int32))) (va_cwS 2 hts gX7_guestNow_X7_has rfl rfl rfl (by decide +kernel) ⟨Nat.le_of_ble_eq_true rfl, Nat.le_of_ble_eq_true rfl⟩) (pS (wc := []) hK hP hD hN [] rfl (by decide)) rfl rfl hl.1 rfl (lv_room (Nat.le_of_ble_eq_true rfl)) dX7_guestNow_36 ⟨Nat.zero_le _, Nat.zero_le _⟩) hS (fun q _ h => a0_in hS hA q h) (a0_in hS hA) (fun r6 u t H3 locs ht hvm hw hB hz1 hk1 hS => ?_)
          obtain ⟨hw, nb7⟩ := hw
          subst hw
          have hP := rdk hP hk1
          refine lv_if_eq (tgt := 51) hx hb dX7_guestNow_39 (by decide) (fun c_8 => ?_) (fun c_8 => ?_)
          · rw [if_pos c_8] at hR
            refine lv_iconst (v := (0 : Int32)) hx hb dX7_guestNow_51 (by decide) ?_
            refine lv_iadd hx hb dX7_guestNow_52 ?_
            refine lv_topi (fun v9 hv9 => ?_)
            have hR := bd_n hv9 hR
            refine lv_istore_n (lv' := [(3, .int v9), (4, .int x4_17), (0, .ref (aM 0)), (1, .int p1)]) hx hb dX7_guestNow_53 rfl hl (by decide) rfl (fun ls hl => ?_)
            refine lv_iinc (v := (x4_17 + 1)) (lv' := [(4, .int (x4_17 + 1)), (3, .int v9), (0, .ref (aM 0)), (1, .int p1)]) hx hb dX7_guestNow_54 hl (k := 1) rfl rfl (by decide) rfl (fun ls hl => ?_)
            refine lv_goto (tgt := 17) hx hb dX7_guestNow_57 (by decide) ?_
            exact ih v9 (x4_17 + 1) _ _ hfu hR hP hD hS ls (lv_sub hl [1, 0, 2, 3] rfl)
          · rw [if_neg c_8] at hR
            refine lv_aload_n hx hb dX7_guestNow_42 rfl (lv_at hl 2 rfl) ?_
            refine lv_iload hx hb dX7_guestNow_43 (lv_at hl 1 rfl) ?_
            obtain ⟨r10, hc11, hR⟩ := ob1_e hR
            refine va_calli (va_runV (As := [.int x4_17]) (rest := [.int x3_17]) ⟨hx, hb, hml, hown, hts⟩ (met_X7_dishesOf l dC dI cI cZ cS aM M hs H3.size x4_17 r10 hc11) (cwV 1 hts gX7_guestNow_X7_dishesOf rfl rfl rfl (by decide +kernel) ⟨Nat.le_of_ble_eq_true rfl, Nat.le_of_ble_eq_true rfl⟩) (pV (wc := wMo cI aM M hs) (ci := 7) (q0 := 0) hK hP hD hN [0, 1, 2, 3, 4, 5, 6, 7, 8] rfl (by decide) rfl rfl) rfl rfl hl.1 rfl (lv_room (Nat.le_of_ble_eq_true rfl)) dX7_guestNow_45 ⟨Nat.zero_le _, Nat.zero_le _⟩) hS (fun q _ h => a0_in hS hA q h) (a0_in hS hA) (fun r10 u t H4 locs ht hvm hw hB hz1 hk1 hS => ?_)
            cases hw
            have hP := rdk hP hk1
            refine lv_goto (tgt := 52) hx hb dX7_guestNow_48 (by decide) ?_
            refine lv_iadd hx hb dX7_guestNow_52 ?_
            refine lv_topi (fun v12 hv12 => ?_)
            have hR := bd_n hv12 hR
            refine lv_istore_n (lv' := [(3, .int v12), (4, .int x4_17), (0, .ref (aM 0)), (1, .int p1)]) hx hb dX7_guestNow_53 rfl hl (by decide) rfl (fun ls hl => ?_)
            refine lv_iinc (v := (x4_17 + 1)) (lv' := [(4, .int (x4_17 + 1)), (3, .int v12), (0, .ref (aM 0)), (1, .int p1)]) hx hb dX7_guestNow_54 hl (k := 1) rfl rfl (by decide) rfl (fun ls hl => ?_)
            refine lv_goto (tgt := 17) hx hb dX7_guestNow_57 (by decide) ?_
            exact ih v12 (x4_17 + 1) _ _ hfu hR hP hD hS ls (lv_sub hl [1, 0, 2, 3] rfl)
    refine LOOP17 (fun x3_17 => (some x3_17)) (fun x3_17 H1 locs hR hP hD hS ls hl => ?_) 28 (0 : Int32) (0 : Int32) _ _ (by decide) hR hP hD hS ls (lv_sub hl [1, 0, 2, 3] rfl)
    try dsimp only at hR
    refine lv_iload_n hx hb dX7_guestNow_60 rfl (lv_at hl 0 rfl) ?_
    exact W.iret (v := x3_17) hx hb hr (fun t ht hW => ⟨⟨x3_17, (), rfl, Option.some.inj hR, trivial⟩, hS.F ht⟩) hS.2.2 dX7_guestNow_61
  · rw [if_neg c_1] at hR
    refine lv_aload_n hx hb dX7_guestNow_5 rfl (lv_at hl 0 rfl) ?_
    refine lv_iload_n hx hb dX7_guestNow_6 rfl (lv_at hl 1 rfl) ?_
    refine lv_iload_n hx hb dX7_guestNow_7 rfl (lv_at hl 2 rfl) ?_
    obtain ⟨r13, hc14, hR⟩ := ob1_e hR
    refine va_calli (va_runV (As := [.int p1, .int p2]) (rest := []) ⟨hx, hb, hml, hown, hts⟩ (met_X7_ofGuest l dC dI cI cZ cS aM M hs s.heap.size p1 p2 r13 hc14) (cwV 2 hts gX7_guestNow_X7_ofGuest rfl rfl rfl (by decide +kernel) ⟨Nat.le_of_ble_eq_true rfl, Nat.le_of_ble_eq_true rfl⟩) (pV (wc := wMo cI aM M hs) (ci := 7) (q0 := 0) hK hP hD hN [0, 1, 2, 3, 4, 5, 6, 7, 8] rfl (by decide) rfl rfl) rfl rfl hl.1 rfl (lv_room (Nat.le_of_ble_eq_true rfl)) dX7_guestNow_8 ⟨Nat.zero_le _, Nat.zero_le _⟩) hS (fun q _ h => a0_in hS hA q h) (a0_in hS hA) (fun r13 u t H1 locs ht hvm hw hB hz1 hk1 hS => ?_)
    cases hw
    have hP := rdk hP hk1
    exact W.iret (v := r13) hx hb hr (fun t ht hW => ⟨⟨r13, (), rfl, Option.some.inj hR, trivial⟩, hS.F ht⟩) hS.2.2 dX7_guestNow_11
abbrev rm_X7_guest : Room := { frames := 3, cells := 0, slots := 0, locals := 67 }
abbrev q_X7_guest (dC : Nat → ClassId) (dI : Nat → Nat → Nat) (cI cZ cS : ClassId) (aM : Nat → Nat) (hs : Int64) (res : Int32 × Pic) (A : Nat → Prop) : Array Value → State → Outcome → State → Prop := va_Qi (fun (r : Int32) (u : Pic) => (r, u) = res) (fun u t => va_P (dC, dI) vwCl (wMo cI aM u hs) t.heap) A
set_option maxHeartbeats 4000000 in
set_option maxRecDepth 100000 in
theorem met_X7_guest (l : Launch) (dC : Nat → ClassId) (dI : Nat → Nat → Nat) (cI cZ cS : ClassId) (aM : Nat → Nat) (M : Pic) (hs : Int64) (sz : Nat) (p1 : Int32) (p2 : Int32) (res : Int32 × Pic) (hR : f7_guest M p1 p2 = some res) : Met l yX7_guest wsX7_guest rm_X7_guest (va_Pc [.ref (aM 0), .int p1, .int p2] (pW (dC, dI) (tyS cI cZ cS) (wMo cI aM M hs) sz)) (q_X7_guest dC dI cI cZ cS aM hs res (va_A (wMo cI aM M hs) sz)) 0 0 (va_A (wMo cI aM M hs) sz) := by
  refine Met.ofW (cc := cX7_guest) (maxL := 3) (ret := (some .int)) (by decide) rfl ?_
  intro p e s m args below meth c s₁ B hml hv
  obtain ⟨rfl, hsz, hP, hK, hD0, hN⟩ := hv
  have hx := B.exec
  have hb := B.bytes
  have hr := B.returns
  have hts := atoms_spec (ws := wsX7_guest) B.pre
  have hown : s.vm.findClass RX7 = some m.cls := findClass_of_methodNamed B.named
  have hlocks := B.notSynchronized
  subst hsz
  have hD := hD0.self (sz := s.heap.size)
  generalize hAe : va_A (wMo cI aM M hs) s.heap.size = A at hD ⊢
  have hA : ∀ q : Nat, s.heap.size ≤ q → A q := fun q h => by rw [← hAe]; exact Or.inr h
  have hS : va_S A s.heap s.heap [] := va_S.rf
  have hP : va_P (dC, dI) vwCl (wMo cI aM M hs) s.heap := hP
  rw [f7_guest] at hR
  have hin7 : ∀ w ∈ wsX70, w ∈ wsX7_guest := by decide +kernel
  have hl := lv_entry ([.ref (aM 0), .int p1, .int p2]) (n := 3) (Nat.le_of_ble_eq_true rfl)
  rw [lg_entry_eq]
  generalize (lg_sl ([.ref (aM 0), .int p1, .int p2]) ++ List.replicate (3 - (lg_sl ([.ref (aM 0), .int p1, .int p2])).length) Slot.unset).toArray = ls at hl ⊢
  have hl : lv_has ls 3 [(0, .ref (aM 0)), (1, .int p1), (2, .int p2)] := hl
  refine lv_aload_n hx hb dX7_guest_0 rfl (lv_at hl 0 rfl) ?_
  refine lv_aload_n hx hb dX7_guest_1 rfl (lv_at hl 0 rfl) ?_
  refine lv_iload_n hx hb dX7_guest_2 rfl (lv_at hl 1 rfl) ?_
  refine va_calli (va_runV (As := [.int p1]) (rest := [.ref (aM 0)]) ⟨hx, hb, hml, hown, hts⟩ (met_X7_isGuest l dC dI cI cZ cS aM M hs s.heap.size p1) (cwV 1 hts gX7_guest_X7_isGuest rfl rfl rfl (by decide +kernel) ⟨Nat.le_of_ble_eq_true rfl, Nat.le_of_ble_eq_true rfl⟩) (pV (wc := wMo cI aM M hs) (ci := 7) (q0 := 0) hK hP hD hN [0, 1, 2, 3, 4, 5, 6, 7, 8] rfl (by decide) rfl rfl) rfl rfl hl.1 rfl (lv_room (Nat.le_of_ble_eq_true rfl)) dX7_guest_3 ⟨Nat.zero_le _, Nat.zero_le _⟩) hS (fun q _ h => a0_in hS hA q h) (a0_in hS hA) (fun r1 u t H1 locs ht hvm hw hB hz1 hk1 hS => ?_)
  obtain ⟨hw, nb2⟩ := hw
  subst hw
  have hP := rdk hP hk1
  refine lv_if_ne (tgt := 13) hx hb dX7_guest_6 (by decide) (fun c_3 => ?_) (fun c_3 => ?_)
  · rw [if_neg c_3] at hR
    refine lv_iload_n hx hb dX7_guest_13 rfl (lv_at hl 2 rfl) ?_
    refine lv_iconst (v := (0 : Int32)) hx hb dX7_guest_14 (by decide) ?_
    refine lv_iconst (v := (2 : Int32)) hx hb dX7_guest_15 (by decide) ?_
    refine va_calli (va_runS (As := [.int p2, .int (0 : Int32), .int (2 : Int32)]) (rest := [.ref (aM 0)]) ⟨hx, hb, hml, hown, hts⟩ (met_X7_within l dC dI cI cZ cS H1.size p2 (0 : Int32) (2 : Int32)) (va_cwS 3 hts gX7_guest_X7_within rfl rfl rfl (by decide +kernel) ⟨Nat.le_of_ble_eq_true rfl, Nat.le_of_ble_eq_true rfl⟩) (pS (wc := []) hK hP hD hN [] rfl (by decide)) rfl rfl hl.1 rfl (lv_room (Nat.le_of_ble_eq_true rfl)) dX7_guest_16 ⟨Nat.zero_le _, Nat.zero_le _⟩) hS (fun q _ h => a0_in hS hA q h) (a0_in hS hA) (fun r4 u t H2 locs ht hvm hw hB hz1 hk1 hS => ?_)
    obtain ⟨hw, nb5⟩ := hw
    subst hw
    have hP := rdk hP hk1
    refine lv_if_eq (tgt := 26) hx hb dX7_guest_19 (by decide) (fun c_6 => ?_) (fun c_6 => ?_)
    · rw [if_pos c_6] at hR
      refine lv_iconst (v := (2 : Int32)) hx hb dX7_guest_26 (by decide) ?_
      refine va_put (D := (dC, dI)) (ci := 7) (v := .int (2 : Int32)) (ty := .int) (C := RX7) (T := TX7) (N := 15) hx hb hts hin7 tyX7 tyX7_ok nmX7 hown hK hP hD hS 0 rfl rfl 7 (by decide) (hw_ hts 1 rfl) (fun _ h9 => h9) rfl (by decide +kernel) rfl rfl (Nat.le_of_ble_eq_true rfl) dX7_guest_27 (fun H3 locs hP hD hS => ?_)
      have hP : va_P (dC, dI) vwCl (wMo cI aM (pset M 7 (fun _ => (2 : Int32))) hs) H3 := hP
      have hD : va_D A (wMo cI aM (pset M 7 (fun _ => (2 : Int32))) hs) := hD
      refine lv_aload_n hx hb dX7_guest_30 rfl (lv_at hl 0 rfl) ?_
      refine va_get (D := (dC, dI)) (ci := 7) (v := .int (2 : Int32)) (C := RX7) (T := TX7) (N := 15) hx hb hts hin7 hown hK hP 0 rfl rfl 7 (by decide) (hw_ hts 1 rfl) (fun _ h9 => h9) rfl dX7_guest_31 ?_
      refine lv_if_le (tgt := 41) hx hb dX7_guest_34 (by decide) (fun q => absurd q (by decide)) (fun _ => ?_)
      refine lv_iconst (v := (0 : Int32)) hx hb dX7_guest_37 (by decide) ?_
      refine lv_goto (tgt := 47) hx hb dX7_guest_38 (by decide) ?_
      exact W.iret (v := (0 : Int32)) hx hb hr (fun t ht hW => ⟨⟨(0 : Int32), (pset M 7 (fun _ => (2 : Int32))), rfl, Option.some.inj hR, P_at ht hP⟩, hS.F ht⟩) hS.2.2 dX7_guest_47
    · rw [if_neg c_6] at hR
      refine lv_iconst (v := (0 : Int32)) hx hb dX7_guest_22 (by decide) ?_
      refine lv_goto (tgt := 27) hx hb dX7_guest_23 (by decide) ?_
      refine va_put (D := (dC, dI)) (ci := 7) (v := .int (0 : Int32)) (ty := .int) (C := RX7) (T := TX7) (N := 15) hx hb hts hin7 tyX7 tyX7_ok nmX7 hown hK hP hD hS 0 rfl rfl 7 (by decide) (hw_ hts 1 rfl) (fun _ h9 => h9) rfl (by decide +kernel) rfl rfl (Nat.le_of_ble_eq_true rfl) dX7_guest_27 (fun H3 locs hP hD hS => ?_)
      have hP : va_P (dC, dI) vwCl (wMo cI aM (pset M 7 (fun _ => (0 : Int32))) hs) H3 := hP
      have hD : va_D A (wMo cI aM (pset M 7 (fun _ => (0 : Int32))) hs) := hD
      refine lv_aload_n hx hb dX7_guest_30 rfl (lv_at hl 0 rfl) ?_
      refine va_get (D := (dC, dI)) (ci := 7) (v := .int (0 : Int32)) (C := RX7) (T := TX7) (N := 15) hx hb hts hin7 hown hK hP 0 rfl rfl 7 (by decide) (hw_ hts 1 rfl) (fun _ h9 => h9) rfl dX7_guest_31 ?_
      refine lv_if_le (tgt := 41) hx hb dX7_guest_34 (by decide) (fun _ => ?_) (fun q => absurd (by decide) q)
      refine lv_aload_n hx hb dX7_guest_41 rfl (lv_at hl 0 rfl) ?_
      refine lv_iload_n hx hb dX7_guest_42 rfl (lv_at hl 1 rfl) ?_
      refine lv_iload_n hx hb dX7_guest_43 rfl (lv_at hl 2 rfl) ?_
      obtain ⟨r7, hc8, hR⟩ := ob1_e hR
      refine va_calli (va_runV (As := [.int p1, .int p2]) (rest := []) ⟨hx, hb, hml, hown, hts⟩ (met_X7_guestNow l dC dI cI cZ cS aM (pset M 7 (fun _ => (0 : Int32))) hs H3.size p1 p2 r7 hc8) (cwV 2 hts gX7_guest_X7_guestNow rfl rfl rfl (by decide +kernel) ⟨Nat.le_of_ble_eq_true rfl, Nat.le_of_ble_eq_true rfl⟩) (pV (wc := wMo cI aM (pset M 7 (fun _ => (0 : Int32))) hs) (ci := 7) (q0 := 0) hK hP hD hN [0, 1, 2, 3, 4, 5, 6, 7, 8] rfl (by decide) rfl rfl) rfl rfl hl.1 rfl (lv_room (Nat.le_of_ble_eq_true rfl)) dX7_guest_44 ⟨Nat.zero_le _, Nat.zero_le _⟩) hS (fun q _ h => a0_in hS hA q h) (a0_in hS hA) (fun r7 u t H4 locs ht hvm hw hB hz1 hk1 hS => ?_)
      cases hw
      have hP := rdk hP hk1
      exact W.iret (v := r7) hx hb hr (fun t ht hW => ⟨⟨r7, (pset M 7 (fun _ => (0 : Int32))), rfl, Option.some.inj hR, P_at ht hP⟩, hS.F ht⟩) hS.2.2 dX7_guest_47
  · rw [if_pos c_3] at hR
    refine lv_iconst (v := (1 : Int32)) hx hb dX7_guest_9 (by decide) ?_
    refine lv_goto (tgt := 27) hx hb dX7_guest_10 (by decide) ?_
    refine va_put (D := (dC, dI)) (ci := 7) (v := .int (1 : Int32)) (ty := .int) (C := RX7) (T := TX7) (N := 15) hx hb hts hin7 tyX7 tyX7_ok nmX7 hown hK hP hD hS 0 rfl rfl 7 (by decide) (hw_ hts 1 rfl) (fun _ h9 => h9) rfl (by decide +kernel) rfl rfl (Nat.le_of_ble_eq_true rfl) dX7_guest_27 (fun H2 locs hP hD hS => ?_)
    have hP : va_P (dC, dI) vwCl (wMo cI aM (pset M 7 (fun _ => (1 : Int32))) hs) H2 := hP
    have hD : va_D A (wMo cI aM (pset M 7 (fun _ => (1 : Int32))) hs) := hD
    refine lv_aload_n hx hb dX7_guest_30 rfl (lv_at hl 0 rfl) ?_
    refine va_get (D := (dC, dI)) (ci := 7) (v := .int (1 : Int32)) (C := RX7) (T := TX7) (N := 15) hx hb hts hin7 hown hK hP 0 rfl rfl 7 (by decide) (hw_ hts 1 rfl) (fun _ h9 => h9) rfl dX7_guest_31 ?_
    refine lv_if_le (tgt := 41) hx hb dX7_guest_34 (by decide) (fun q => absurd q (by decide)) (fun _ => ?_)
    refine lv_iconst (v := (0 : Int32)) hx hb dX7_guest_37 (by decide) ?_
    refine lv_goto (tgt := 47) hx hb dX7_guest_38 (by decide) ?_
    exact W.iret (v := (0 : Int32)) hx hb hr (fun t ht hW => ⟨⟨(0 : Int32), (pset M 7 (fun _ => (1 : Int32))), rfl, Option.some.inj hR, P_at ht hP⟩, hS.F ht⟩) hS.2.2 dX7_guest_47
abbrev rm_X7_guestsOn : Room := { frames := 1, cells := 0, slots := 0, locals := 22 }
abbrev q_X7_guestsOn (dC : Nat → ClassId) (dI : Nat → Nat → Nat) (cI cZ cS : ClassId) (aM : Nat → Nat)  (res : Int32) (A : Nat → Prop) : Array Value → State → Outcome → State → Prop := va_Qi (fun (r : Int32) (u : Unit) => r = res) (fun _ _ => True) A
set_option maxHeartbeats 4000000 in
set_option maxRecDepth 100000 in
theorem met_X7_guestsOn (l : Launch) (dC : Nat → ClassId) (dI : Nat → Nat → Nat) (cI cZ cS : ClassId) (aM : Nat → Nat) (M : Pic) (hs : Int64) (sz : Nat) (p1 : Int32) (res : Int32) (hR : f7_guestsOn M p1 = some res) : Met l yX7_guestsOn wsX7_guestsOn rm_X7_guestsOn (va_Pc [.ref (aM 0), .int p1] (pW (dC, dI) (tyS cI cZ cS) (wMo cI aM M hs) sz)) (q_X7_guestsOn dC dI cI cZ cS aM res (a0 sz)) 0 0 (a0 sz) := by
  refine Met.ofW (cc := cX7_guestsOn) (maxL := 4) (ret := (some .int)) (by decide) rfl ?_
  intro p e s m args below meth c s₁ B hml hv
  obtain ⟨rfl, hsz, hP, hK, hD0, hN⟩ := hv
  have hx := B.exec
  have hb := B.bytes
  have hr := B.returns
  have hts := atoms_spec (ws := wsX7_guestsOn) B.pre
  have hown : s.vm.findClass RX7 = some m.cls := findClass_of_methodNamed B.named
  have hlocks := B.notSynchronized
  subst hsz
  have hD := hD0
  have hA : ∀ q : Nat, s.heap.size ≤ q → a0 s.heap.size q := fun q h => Or.inr h
  have hS : va_S (a0 s.heap.size) s.heap s.heap [] := va_S.rf
  have hP : va_P (dC, dI) vwCl (wMo cI aM M hs) s.heap := hP
  rw [f7_guestsOn] at hR
  have hin7 : ∀ w ∈ wsX70, w ∈ wsX7_guestsOn := by decide +kernel
  have hl := lv_entry ([.ref (aM 0), .int p1]) (n := 4) (Nat.le_of_ble_eq_true rfl)
  rw [lg_entry_eq]
  generalize (lg_sl ([.ref (aM 0), .int p1]) ++ List.replicate (4 - (lg_sl ([.ref (aM 0), .int p1])).length) Slot.unset).toArray = ls at hl ⊢
  have hl : lv_has ls 4 [(0, .ref (aM 0)), (1, .int p1)] := hl
  refine lv_iconst (v := (0 : Int32)) hx hb dX7_guestsOn_0 (by decide) ?_
  refine lv_istore_n (lv' := [(2, .int (0 : Int32)), (0, .ref (aM 0)), (1, .int p1)]) hx hb dX7_guestsOn_1 rfl hl (by decide) rfl (fun ls hl => ?_)
  refine lv_iconst (v := (0 : Int32)) hx hb dX7_guestsOn_2 (by decide) ?_
  refine lv_istore_n (lv' := [(3, .int (0 : Int32)), (2, .int (0 : Int32)), (0, .ref (aM 0)), (1, .int p1)]) hx hb dX7_guestsOn_3 rfl hl (by decide) rfl (fun ls hl => ?_)
  have LOOP4 : ∀ (k : Int32 → (Option (Int32))), (∀ (x2_4 : Int32) (H1 : Heap) (locs : List Loc), k x2_4 = some res → va_P (dC, dI) vwCl (wMo cI aM M hs) H1 → va_D (fun _ => True) (wMo cI aM M hs) → va_S (a0 s.heap.size) s.heap H1 locs → ∀ (ls : Array Slot), lv_has ls 4 [(2, .int x2_4)] → W p l e (headSpec wsX7_guestsOn rm_X7_guestsOn).room s m ([.ref (aM 0), .int p1] : List Value).toArray below meth c H1 locs 0 0 (MQ below (q_X7_guestsOn dC dI cI cZ cS aM res (a0 s.heap.size)) ([.ref (aM 0), .int p1] : List Value).toArray s 0 0 (a0 s.heap.size)) (F0 m 36 ls [])) → ∀ (nf : Nat) (x2_4 : Int32) (x3_4 : Int32) (H1 : Heap) (locs : List Loc), (((M 0) (ix (4 : Int32)))).toInt - (x3_4).toInt ≤ (nf : Int) → f7_guestsOn_L4 M p1 nf x2_4 x3_4 k = some res → va_P (dC, dI) vwCl (wMo cI aM M hs) H1 → va_D (fun _ => True) (wMo cI aM M hs) → va_S (a0 s.heap.size) s.heap H1 locs → ∀ (ls : Array Slot), lv_has ls 4 [(2, .int x2_4), (3, .int x3_4), (0, .ref (aM 0)), (1, .int p1)] → W p l e (headSpec wsX7_guestsOn rm_X7_guestsOn).room s m ([.ref (aM 0), .int p1] : List Value).toArray below meth c H1 locs 0 0 (MQ below (q_X7_guestsOn dC dI cI cZ cS aM res (a0 s.heap.size)) ([.ref (aM 0), .int p1] : List Value).toArray s 0 0 (a0 s.heap.size)) (F0 m 4 ls []) := by
    intro k hk nf
    induction nf with
    | zero =>
      intro x2_4 x3_4 H1 locs hfu hR hP hD hS ls hl
      rw [f7_guestsOn_L4] at hR
      refine lv_iload_n hx hb dX7_guestsOn_4 rfl (lv_at hl 1 rfl) ?_
      refine lv_aload_n hx hb dX7_guestsOn_5 rfl (lv_at hl 2 rfl) ?_
      refine va_get (D := (dC, dI)) (ci := 7) (v := .ref (aM 1)) (C := RX7) (T := TX7) (N := 15) hx hb hts hin7 hown hK hP 0 rfl rfl 0 (by decide) (hw_ hts 1 rfl) (fun _ h9 => h9) rfl dX7_guestsOn_6 ?_
      refine lv_iconst (v := (4 : Int32)) hx hb dX7_guestsOn_9 (by decide) ?_
      refine va_iald (f := (M 0)) hx hb hK hP 1 0 rfl rfl (vp_in_nI (n := 4) (by decide) (by decide)) dX7_guestsOn_10 ?_
      refine lv_icmp_ge (tgt := 36) hx hb dX7_guestsOn_11 (by decide) (fun c_1 => ?_) (fun c_1 => ?_)
      · skip
        exact hk x2_4 _ _  hR hP hD hS ls (lv_sub hl [0] rfl)
      · exact (fuel0 hfu c_1).elim
    | succ nf ih =>
      intro x2_4 x3_4 H1 locs hfu hR hP hD hS ls hl
      rw [f7_guestsOn_L4] at hR
      refine lv_iload_n hx hb dX7_guestsOn_4 rfl (lv_at hl 1 rfl) ?_
      refine lv_aload_n hx hb dX7_guestsOn_5 rfl (lv_at hl 2 rfl) ?_
      refine va_get (D := (dC, dI)) (ci := 7) (v := .ref (aM 1)) (C := RX7) (T := TX7) (N := 15) hx hb hts hin7 hown hK hP 0 rfl rfl 0 (by decide) (hw_ hts 1 rfl) (fun _ h9 => h9) rfl dX7_guestsOn_6 ?_
      refine lv_iconst (v := (4 : Int32)) hx hb dX7_guestsOn_9 (by decide) ?_
      refine va_iald (f := (M 0)) hx hb hK hP 1 0 rfl rfl (vp_in_nI (n := 4) (by decide) (by decide)) dX7_guestsOn_10 ?_
      refine lv_icmp_ge (tgt := 36) hx hb dX7_guestsOn_11 (by decide) (fun c_2 => ?_) (fun c_2 => ?_)
      · rw [if_pos c_2] at hR
        exact hk x2_4 _ _  hR hP hD hS ls (lv_sub hl [0] rfl)
      · rw [if_neg c_2] at hR
        have hfu := fuelS hfu c_2
        refine lv_iload_n hx hb dX7_guestsOn_14 rfl (lv_at hl 0 rfl) ?_
        refine lv_aload_n hx hb dX7_guestsOn_15 rfl (lv_at hl 2 rfl) ?_
        refine lv_iload_n hx hb dX7_guestsOn_16 rfl (lv_at hl 1 rfl) ?_
        refine lv_iconst (v := (0 : Int32)) hx hb dX7_guestsOn_17 (by decide) ?_
        obtain ⟨r3, hc4, hR⟩ := ob1_e hR
        refine va_calli (va_runV (As := [.int x3_4, .int (0 : Int32)]) (rest := [.int x2_4]) ⟨hx, hb, hml, hown, hts⟩ (met_X7_ofGuest l dC dI cI cZ cS aM M hs H1.size x3_4 (0 : Int32) r3 hc4) (cwV 2 hts gX7_guestsOn_X7_ofGuest rfl rfl rfl (by decide +kernel) ⟨Nat.le_of_ble_eq_true rfl, Nat.le_of_ble_eq_true rfl⟩) (pV (wc := wMo cI aM M hs) (ci := 7) (q0 := 0) hK hP hD hN [0, 1, 2, 3, 4, 5, 6, 7, 8] rfl (by decide) rfl rfl) rfl rfl hl.1 rfl (lv_room (Nat.le_of_ble_eq_true rfl)) dX7_guestsOn_18 ⟨Nat.zero_le _, Nat.zero_le _⟩) hS (fun q _ h => a0_in hS hA q h) (a0_in hS hA) (fun r3 u t H2 locs ht hvm hw hB hz1 hk1 hS => ?_)
        cases hw
        have hP := rdk hP hk1
        refine lv_iload_n hx hb dX7_guestsOn_21 rfl (lv_at hl 3 rfl) ?_
        refine lv_bipush (v := (7 : Int32)) hx hb dX7_guestsOn_22 (by decide) ?_
        refine lv_irem hx hb dX7_guestsOn_24 (by decide) ?_
        refine lv_ishr hx hb dX7_guestsOn_25 ?_
        refine lv_iconst (v := (1 : Int32)) hx hb dX7_guestsOn_26 (by decide) ?_
        refine lv_iand hx hb dX7_guestsOn_27 ?_
        refine lv_iadd hx hb dX7_guestsOn_28 ?_
        refine lv_topi (fun v5 hv5 => ?_)
        have hR := bd_n hv5 hR
        refine lv_istore_n (lv' := [(2, .int v5), (3, .int x3_4), (0, .ref (aM 0)), (1, .int p1)]) hx hb dX7_guestsOn_29 rfl hl (by decide) rfl (fun ls hl => ?_)
        refine lv_iinc (v := (x3_4 + 1)) (lv' := [(3, .int (x3_4 + 1)), (2, .int v5), (0, .ref (aM 0)), (1, .int p1)]) hx hb dX7_guestsOn_30 hl (k := 1) rfl rfl (by decide) rfl (fun ls hl => ?_)
        refine lv_goto (tgt := 4) hx hb dX7_guestsOn_33 (by decide) ?_
        exact ih v5 (x3_4 + 1) _ _ hfu hR hP hD hS ls (lv_sub hl [1, 0, 2, 3] rfl)
  refine LOOP4 (fun x2_4 => (some x2_4)) (fun x2_4 H1 locs hR hP hD hS ls hl => ?_) (fuelN (0 : Int32) ((M 0) (ix (4 : Int32)))) (0 : Int32) (0 : Int32) _ _ (fuelE _ _) hR hP hD hS ls (lv_sub hl [1, 0, 2, 3] rfl)
  try dsimp only at hR
  refine lv_iload_n hx hb dX7_guestsOn_36 rfl (lv_at hl 0 rfl) ?_
  exact W.iret (v := x2_4) hx hb hr (fun t ht hW => ⟨⟨x2_4, (), rfl, Option.some.inj hR, trivial⟩, hS.F ht⟩) hS.2.2 dX7_guestsOn_37
abbrev rm_X7_dayNow : Room := { frames := 3, cells := 0, slots := 0, locals := 70 }
abbrev q_X7_dayNow (dC : Nat → ClassId) (dI : Nat → Nat → Nat) (cI cZ cS : ClassId) (aM : Nat → Nat)  (res : Int32) (A : Nat → Prop) : Array Value → State → Outcome → State → Prop := va_Qi (fun (r : Int32) (u : Unit) => r = res) (fun _ _ => True) A
set_option maxHeartbeats 4000000 in
set_option maxRecDepth 100000 in
theorem met_X7_dayNow (l : Launch) (dC : Nat → ClassId) (dI : Nat → Nat → Nat) (cI cZ cS : ClassId) (aM : Nat → Nat) (M : Pic) (hs : Int64) (sz : Nat) (p1 : Int32) (p2 : Int32) (res : Int32) (hR : f7_dayNow M p1 p2 = some res) : Met l yX7_dayNow wsX7_dayNow rm_X7_dayNow (va_Pc [.ref (aM 0), .int p1, .int p2] (pW (dC, dI) (tyS cI cZ cS) (wMo cI aM M hs) sz)) (q_X7_dayNow dC dI cI cZ cS aM res (a0 sz)) 0 0 (a0 sz) := by
  refine Met.ofW (cc := cX7_dayNow) (maxL := 3) (ret := (some .int)) (by decide) rfl ?_
  intro p e s m args below meth c s₁ B hml hv
  obtain ⟨rfl, hsz, hP, hK, hD0, hN⟩ := hv
  have hx := B.exec
  have hb := B.bytes
  have hr := B.returns
  have hts := atoms_spec (ws := wsX7_dayNow) B.pre
  have hown : s.vm.findClass RX7 = some m.cls := findClass_of_methodNamed B.named
  have hlocks := B.notSynchronized
  subst hsz
  have hD := hD0
  have hA : ∀ q : Nat, s.heap.size ≤ q → a0 s.heap.size q := fun q h => Or.inr h
  have hS : va_S (a0 s.heap.size) s.heap s.heap [] := va_S.rf
  have hP : va_P (dC, dI) vwCl (wMo cI aM M hs) s.heap := hP
  rw [f7_dayNow] at hR
  have hl := lv_entry ([.ref (aM 0), .int p1, .int p2]) (n := 3) (Nat.le_of_ble_eq_true rfl)
  rw [lg_entry_eq]
  generalize (lg_sl ([.ref (aM 0), .int p1, .int p2]) ++ List.replicate (3 - (lg_sl ([.ref (aM 0), .int p1, .int p2])).length) Slot.unset).toArray = ls at hl ⊢
  have hl : lv_has ls 3 [(0, .ref (aM 0)), (1, .int p1), (2, .int p2)] := hl
  refine lv_iload_n hx hb dX7_dayNow_0 rfl (lv_at hl 2 rfl) ?_
  by_cases c_1 : p2 = 0
  · rw [if_pos c_1] at hR
    refine lv_tableIn (tgt := 32) hx hb dX7_dayNow_1 (by rw [c_1]; decide) (by rw [c_1]; decide) (by rw [c_1]; rfl) (by decide) ?_
    refine lv_aload_n hx hb dX7_dayNow_32 rfl (lv_at hl 0 rfl) ?_
    refine lv_iload_n hx hb dX7_dayNow_33 rfl (lv_at hl 1 rfl) ?_
    obtain ⟨r2, hc3, hR⟩ := ob1_e hR
    refine va_calli (va_runV (As := [.int p1]) (rest := []) ⟨hx, hb, hml, hown, hts⟩ (met_X7_dishesOf l dC dI cI cZ cS aM M hs s.heap.size p1 r2 hc3) (cwV 1 hts gX7_dayNow_X7_dishesOf rfl rfl rfl (by decide +kernel) ⟨Nat.le_of_ble_eq_true rfl, Nat.le_of_ble_eq_true rfl⟩) (pV (wc := wMo cI aM M hs) (ci := 7) (q0 := 0) hK hP hD hN [0, 1, 2, 3, 4, 5, 6, 7, 8] rfl (by decide) rfl rfl) rfl rfl hl.1 rfl (lv_room (Nat.le_of_ble_eq_true rfl)) dX7_dayNow_34 ⟨Nat.zero_le _, Nat.zero_le _⟩) hS (fun q _ h => a0_in hS hA q h) (a0_in hS hA) (fun r2 u t H1 locs ht hvm hw hB hz1 hk1 hS => ?_)
    cases hw
    have hP := rdk hP hk1
    exact W.iret (v := r2) hx hb hr (fun t ht hW => ⟨⟨r2, (), rfl, Option.some.inj hR, trivial⟩, hS.F ht⟩) hS.2.2 dX7_dayNow_37
  rw [if_neg c_1] at hR
  by_cases c_4 : p2 = 1
  · rw [if_pos c_4] at hR
    refine lv_tableIn (tgt := 38) hx hb dX7_dayNow_1 (by rw [c_4]; decide) (by rw [c_4]; decide) (by rw [c_4]; rfl) (by decide) ?_
    refine lv_aload_n hx hb dX7_dayNow_38 rfl (lv_at hl 0 rfl) ?_
    refine lv_iload_n hx hb dX7_dayNow_39 rfl (lv_at hl 1 rfl) ?_
    obtain ⟨r5, hc6, hR⟩ := ob1_e hR
    refine va_calli (va_runV (As := [.int p1]) (rest := []) ⟨hx, hb, hml, hown, hts⟩ (met_X7_costOf l dC dI cI cZ cS aM M hs s.heap.size p1 r5 hc6) (cwV 1 hts gX7_dayNow_X7_costOf rfl rfl rfl (by decide +kernel) ⟨Nat.le_of_ble_eq_true rfl, Nat.le_of_ble_eq_true rfl⟩) (pV (wc := wMo cI aM M hs) (ci := 7) (q0 := 0) hK hP hD hN [0, 1, 2, 3, 4, 5, 6, 7, 8] rfl (by decide) rfl rfl) rfl rfl hl.1 rfl (lv_room (Nat.le_of_ble_eq_true rfl)) dX7_dayNow_40 ⟨Nat.zero_le _, Nat.zero_le _⟩) hS (fun q _ h => a0_in hS hA q h) (a0_in hS hA) (fun r5 u t H1 locs ht hvm hw hB hz1 hk1 hS => ?_)
    cases hw
    have hP := rdk hP hk1
    exact W.iret (v := r5) hx hb hr (fun t ht hW => ⟨⟨r5, (), rfl, Option.some.inj hR, trivial⟩, hS.F ht⟩) hS.2.2 dX7_dayNow_43
  rw [if_neg c_4] at hR
  by_cases c_7 : p2 = 2
  · rw [if_pos c_7] at hR
    refine lv_tableIn (tgt := 44) hx hb dX7_dayNow_1 (by rw [c_7]; decide) (by rw [c_7]; decide) (by rw [c_7]; rfl) (by decide) ?_
    refine lv_aload_n hx hb dX7_dayNow_44 rfl (lv_at hl 0 rfl) ?_
    refine lv_iload_n hx hb dX7_dayNow_45 rfl (lv_at hl 1 rfl) ?_
    obtain ⟨r8, hc9, hR⟩ := ob1_e hR
    refine va_calli (va_runV (As := [.int p1]) (rest := []) ⟨hx, hb, hml, hown, hts⟩ (met_X7_joyOf l dC dI cI cZ cS aM M hs s.heap.size p1 r8 hc9) (cwV 1 hts gX7_dayNow_X7_joyOf rfl rfl rfl (by decide +kernel) ⟨Nat.le_of_ble_eq_true rfl, Nat.le_of_ble_eq_true rfl⟩) (pV (wc := wMo cI aM M hs) (ci := 7) (q0 := 0) hK hP hD hN [0, 1, 2, 3, 4, 5, 6, 7, 8] rfl (by decide) rfl rfl) rfl rfl hl.1 rfl (lv_room (Nat.le_of_ble_eq_true rfl)) dX7_dayNow_46 ⟨Nat.zero_le _, Nat.zero_le _⟩) hS (fun q _ h => a0_in hS hA q h) (a0_in hS hA) (fun r8 u t H1 locs ht hvm hw hB hz1 hk1 hS => ?_)
    cases hw
    have hP := rdk hP hk1
    exact W.iret (v := r8) hx hb hr (fun t ht hW => ⟨⟨r8, (), rfl, Option.some.inj hR, trivial⟩, hS.F ht⟩) hS.2.2 dX7_dayNow_49
  rw [if_neg c_7] at hR
  by_cases c_10 : p2 = 3
  · rw [if_pos c_10] at hR
    refine lv_tableIn (tgt := 50) hx hb dX7_dayNow_1 (by rw [c_10]; decide) (by rw [c_10]; decide) (by rw [c_10]; rfl) (by decide) ?_
    refine lv_aload_n hx hb dX7_dayNow_50 rfl (lv_at hl 0 rfl) ?_
    refine lv_iload_n hx hb dX7_dayNow_51 rfl (lv_at hl 1 rfl) ?_
    obtain ⟨r11, hc12, hR⟩ := ob1_e hR
    refine va_calli (va_runV (As := [.int p1]) (rest := []) ⟨hx, hb, hml, hown, hts⟩ (met_X7_vetoed l dC dI cI cZ cS aM M hs s.heap.size p1 r11 hc12) (cwV 1 hts gX7_dayNow_X7_vetoed rfl rfl rfl (by decide +kernel) ⟨Nat.le_of_ble_eq_true rfl, Nat.le_of_ble_eq_true rfl⟩) (pV (wc := wMo cI aM M hs) (ci := 7) (q0 := 0) hK hP hD hN [0, 1, 2, 3, 4, 5, 6, 7, 8] rfl (by decide) rfl rfl) rfl rfl hl.1 rfl (lv_room (Nat.le_of_ble_eq_true rfl)) dX7_dayNow_52 ⟨Nat.zero_le _, Nat.zero_le _⟩) hS (fun q _ h => a0_in hS hA q h) (a0_in hS hA) (fun r11 u t H1 locs ht hvm hw hB hz1 hk1 hS => ?_)
    cases hw
    have hP := rdk hP hk1
    exact W.iret (v := r11) hx hb hr (fun t ht hW => ⟨⟨r11, (), rfl, Option.some.inj hR, trivial⟩, hS.F ht⟩) hS.2.2 dX7_dayNow_55
  rw [if_neg c_10] at hR
  refine lv_tableOut (tgt := 56) hx hb dX7_dayNow_1 (sw_out [0, 1, 2, 3] (fun z h1 h2 => by simp; omega) (List.forall_mem_cons.mpr ⟨lv_neT (a := 0) c_1 rfl, List.forall_mem_cons.mpr ⟨lv_neT (a := 1) c_4 rfl, List.forall_mem_cons.mpr ⟨lv_neT (a := 2) c_7 rfl, List.forall_mem_cons.mpr ⟨lv_neT (a := 3) c_10 rfl, fun _ h => absurd h List.not_mem_nil⟩⟩⟩⟩)) (by decide) ?_
  refine lv_aload_n hx hb dX7_dayNow_56 rfl (lv_at hl 0 rfl) ?_
  refine lv_iload_n hx hb dX7_dayNow_57 rfl (lv_at hl 1 rfl) ?_
  obtain ⟨r13, hc14, hR⟩ := ob1_e hR
  refine va_calli (va_runV (As := [.int p1]) (rest := []) ⟨hx, hb, hml, hown, hts⟩ (met_X7_guestsOn l dC dI cI cZ cS aM M hs s.heap.size p1 r13 hc14) (cwV 1 hts gX7_dayNow_X7_guestsOn rfl rfl rfl (by decide +kernel) ⟨Nat.le_of_ble_eq_true rfl, Nat.le_of_ble_eq_true rfl⟩) (pV (wc := wMo cI aM M hs) (ci := 7) (q0 := 0) hK hP hD hN [0, 1, 2, 3, 4, 5, 6, 7, 8] rfl (by decide) rfl rfl) rfl rfl hl.1 rfl (lv_room (Nat.le_of_ble_eq_true rfl)) dX7_dayNow_58 ⟨Nat.zero_le _, Nat.zero_le _⟩) hS (fun q _ h => a0_in hS hA q h) (a0_in hS hA) (fun r13 u t H1 locs ht hvm hw hB hz1 hk1 hS => ?_)
  cases hw
  have hP := rdk hP hk1
  exact W.iret (v := r13) hx hb hr (fun t ht hW => ⟨⟨r13, (), rfl, Option.some.inj hR, trivial⟩, hS.F ht⟩) hS.2.2 dX7_dayNow_61
abbrev rm_X7_day : Room := { frames := 4, cells := 0, slots := 0, locals := 92 }
abbrev q_X7_day (dC : Nat → ClassId) (dI : Nat → Nat → Nat) (cI cZ cS : ClassId) (aM : Nat → Nat) (hs : Int64) (res : Int32 × Pic) (A : Nat → Prop) : Array Value → State → Outcome → State → Prop := va_Qi (fun (r : Int32) (u : Pic) => (r, u) = res) (fun u t => va_P (dC, dI) vwCl (wMo cI aM u hs) t.heap) A
set_option maxHeartbeats 4000000 in
set_option maxRecDepth 100000 in
theorem met_X7_day (l : Launch) (dC : Nat → ClassId) (dI : Nat → Nat → Nat) (cI cZ cS : ClassId) (aM : Nat → Nat) (M : Pic) (hs : Int64) (sz : Nat) (p1 : Int32) (p2 : Int32) (res : Int32 × Pic) (hR : f7_day M p1 p2 = some res) : Met l yX7_day wsX7_day rm_X7_day (va_Pc [.ref (aM 0), .int p1, .int p2] (pW (dC, dI) (tyS cI cZ cS) (wMo cI aM M hs) sz)) (q_X7_day dC dI cI cZ cS aM hs res (va_A (wMo cI aM M hs) sz)) 0 0 (va_A (wMo cI aM M hs) sz) := by
  refine Met.ofW (cc := cX7_day) (maxL := 3) (ret := (some .int)) (by decide) rfl ?_
  intro p e s m args below meth c s₁ B hml hv
  obtain ⟨rfl, hsz, hP, hK, hD0, hN⟩ := hv
  have hx := B.exec
  have hb := B.bytes
  have hr := B.returns
  have hts := atoms_spec (ws := wsX7_day) B.pre
  have hown : s.vm.findClass RX7 = some m.cls := findClass_of_methodNamed B.named
  have hlocks := B.notSynchronized
  subst hsz
  have hD := hD0.self (sz := s.heap.size)
  generalize hAe : va_A (wMo cI aM M hs) s.heap.size = A at hD ⊢
  have hA : ∀ q : Nat, s.heap.size ≤ q → A q := fun q h => by rw [← hAe]; exact Or.inr h
  have hS : va_S A s.heap s.heap [] := va_S.rf
  have hP : va_P (dC, dI) vwCl (wMo cI aM M hs) s.heap := hP
  rw [f7_day] at hR
  have hin7 : ∀ w ∈ wsX70, w ∈ wsX7_day := by decide +kernel
  have hl := lv_entry ([.ref (aM 0), .int p1, .int p2]) (n := 3) (Nat.le_of_ble_eq_true rfl)
  rw [lg_entry_eq]
  generalize (lg_sl ([.ref (aM 0), .int p1, .int p2]) ++ List.replicate (3 - (lg_sl ([.ref (aM 0), .int p1, .int p2])).length) Slot.unset).toArray = ls at hl ⊢
  have hl : lv_has ls 3 [(0, .ref (aM 0)), (1, .int p1), (2, .int p2)] := hl
  refine lv_aload_n hx hb dX7_day_0 rfl (lv_at hl 0 rfl) ?_
  refine lv_iload_n hx hb dX7_day_1 rfl (lv_at hl 1 rfl) ?_
  refine va_calli (va_runS (As := [.int p1]) (rest := [.ref (aM 0)]) ⟨hx, hb, hml, hown, hts⟩ (met_X7_isDay l dC dI cI cZ cS s.heap.size p1) (va_cwS 1 hts gX7_day_X7_isDay rfl rfl rfl (by decide +kernel) ⟨Nat.le_of_ble_eq_true rfl, Nat.le_of_ble_eq_true rfl⟩) (pS (wc := []) hK hP hD hN [] rfl (by decide)) rfl rfl hl.1 rfl (lv_room (Nat.le_of_ble_eq_true rfl)) dX7_day_2 ⟨Nat.zero_le _, Nat.zero_le _⟩) hS (fun q _ h => a0_in hS hA q h) (a0_in hS hA) (fun r1 u t H1 locs ht hvm hw hB hz1 hk1 hS => ?_)
  obtain ⟨hw, nb2⟩ := hw
  subst hw
  have hP := rdk hP hk1
  refine lv_if_ne (tgt := 12) hx hb dX7_day_5 (by decide) (fun c_3 => ?_) (fun c_3 => ?_)
  · rw [if_neg c_3] at hR
    refine lv_iload_n hx hb dX7_day_12 rfl (lv_at hl 2 rfl) ?_
    refine lv_iconst (v := (0 : Int32)) hx hb dX7_day_13 (by decide) ?_
    refine lv_iconst (v := (4 : Int32)) hx hb dX7_day_14 (by decide) ?_
    refine va_calli (va_runS (As := [.int p2, .int (0 : Int32), .int (4 : Int32)]) (rest := [.ref (aM 0)]) ⟨hx, hb, hml, hown, hts⟩ (met_X7_within l dC dI cI cZ cS H1.size p2 (0 : Int32) (4 : Int32)) (va_cwS 3 hts gX7_day_X7_within rfl rfl rfl (by decide +kernel) ⟨Nat.le_of_ble_eq_true rfl, Nat.le_of_ble_eq_true rfl⟩) (pS (wc := []) hK hP hD hN [] rfl (by decide)) rfl rfl hl.1 rfl (lv_room (Nat.le_of_ble_eq_true rfl)) dX7_day_15 ⟨Nat.zero_le _, Nat.zero_le _⟩) hS (fun q _ h => a0_in hS hA q h) (a0_in hS hA) (fun r4 u t H2 locs ht hvm hw hB hz1 hk1 hS => ?_)
    obtain ⟨hw, nb5⟩ := hw
    subst hw
    have hP := rdk hP hk1
    refine lv_if_eq (tgt := 25) hx hb dX7_day_18 (by decide) (fun c_6 => ?_) (fun c_6 => ?_)
    · rw [if_pos c_6] at hR
      refine lv_iconst (v := (2 : Int32)) hx hb dX7_day_25 (by decide) ?_
      refine va_put (D := (dC, dI)) (ci := 7) (v := .int (2 : Int32)) (ty := .int) (C := RX7) (T := TX7) (N := 15) hx hb hts hin7 tyX7 tyX7_ok nmX7 hown hK hP hD hS 0 rfl rfl 7 (by decide) (hw_ hts 1 rfl) (fun _ h9 => h9) rfl (by decide +kernel) rfl rfl (Nat.le_of_ble_eq_true rfl) dX7_day_26 (fun H3 locs hP hD hS => ?_)
      have hP : va_P (dC, dI) vwCl (wMo cI aM (pset M 7 (fun _ => (2 : Int32))) hs) H3 := hP
      have hD : va_D A (wMo cI aM (pset M 7 (fun _ => (2 : Int32))) hs) := hD
      refine lv_aload_n hx hb dX7_day_29 rfl (lv_at hl 0 rfl) ?_
      refine va_get (D := (dC, dI)) (ci := 7) (v := .int (2 : Int32)) (C := RX7) (T := TX7) (N := 15) hx hb hts hin7 hown hK hP 0 rfl rfl 7 (by decide) (hw_ hts 1 rfl) (fun _ h9 => h9) rfl dX7_day_30 ?_
      refine lv_if_le (tgt := 40) hx hb dX7_day_33 (by decide) (fun q => absurd q (by decide)) (fun _ => ?_)
      refine lv_iconst (v := (0 : Int32)) hx hb dX7_day_36 (by decide) ?_
      refine lv_goto (tgt := 46) hx hb dX7_day_37 (by decide) ?_
      exact W.iret (v := (0 : Int32)) hx hb hr (fun t ht hW => ⟨⟨(0 : Int32), (pset M 7 (fun _ => (2 : Int32))), rfl, Option.some.inj hR, P_at ht hP⟩, hS.F ht⟩) hS.2.2 dX7_day_46
    · rw [if_neg c_6] at hR
      refine lv_iconst (v := (0 : Int32)) hx hb dX7_day_21 (by decide) ?_
      refine lv_goto (tgt := 26) hx hb dX7_day_22 (by decide) ?_
      refine va_put (D := (dC, dI)) (ci := 7) (v := .int (0 : Int32)) (ty := .int) (C := RX7) (T := TX7) (N := 15) hx hb hts hin7 tyX7 tyX7_ok nmX7 hown hK hP hD hS 0 rfl rfl 7 (by decide) (hw_ hts 1 rfl) (fun _ h9 => h9) rfl (by decide +kernel) rfl rfl (Nat.le_of_ble_eq_true rfl) dX7_day_26 (fun H3 locs hP hD hS => ?_)
      have hP : va_P (dC, dI) vwCl (wMo cI aM (pset M 7 (fun _ => (0 : Int32))) hs) H3 := hP
      have hD : va_D A (wMo cI aM (pset M 7 (fun _ => (0 : Int32))) hs) := hD
      refine lv_aload_n hx hb dX7_day_29 rfl (lv_at hl 0 rfl) ?_
      refine va_get (D := (dC, dI)) (ci := 7) (v := .int (0 : Int32)) (C := RX7) (T := TX7) (N := 15) hx hb hts hin7 hown hK hP 0 rfl rfl 7 (by decide) (hw_ hts 1 rfl) (fun _ h9 => h9) rfl dX7_day_30 ?_
      refine lv_if_le (tgt := 40) hx hb dX7_day_33 (by decide) (fun _ => ?_) (fun q => absurd (by decide) q)
      refine lv_aload_n hx hb dX7_day_40 rfl (lv_at hl 0 rfl) ?_
      refine lv_iload_n hx hb dX7_day_41 rfl (lv_at hl 1 rfl) ?_
      refine lv_iload_n hx hb dX7_day_42 rfl (lv_at hl 2 rfl) ?_
      obtain ⟨r7, hc8, hR⟩ := ob1_e hR
      refine va_calli (va_runV (As := [.int p1, .int p2]) (rest := []) ⟨hx, hb, hml, hown, hts⟩ (met_X7_dayNow l dC dI cI cZ cS aM (pset M 7 (fun _ => (0 : Int32))) hs H3.size p1 p2 r7 hc8) (cwV 2 hts gX7_day_X7_dayNow rfl rfl rfl (by decide +kernel) ⟨Nat.le_of_ble_eq_true rfl, Nat.le_of_ble_eq_true rfl⟩) (pV (wc := wMo cI aM (pset M 7 (fun _ => (0 : Int32))) hs) (ci := 7) (q0 := 0) hK hP hD hN [0, 1, 2, 3, 4, 5, 6, 7, 8] rfl (by decide) rfl rfl) rfl rfl hl.1 rfl (lv_room (Nat.le_of_ble_eq_true rfl)) dX7_day_43 ⟨Nat.zero_le _, Nat.zero_le _⟩) hS (fun q _ h => a0_in hS hA q h) (a0_in hS hA) (fun r7 u t H4 locs ht hvm hw hB hz1 hk1 hS => ?_)
      cases hw
      have hP := rdk hP hk1
      exact W.iret (v := r7) hx hb hr (fun t ht hW => ⟨⟨r7, (pset M 7 (fun _ => (0 : Int32))), rfl, Option.some.inj hR, P_at ht hP⟩, hS.F ht⟩) hS.2.2 dX7_day_46
  · rw [if_pos c_3] at hR
    refine lv_iconst (v := (1 : Int32)) hx hb dX7_day_8 (by decide) ?_
    refine lv_goto (tgt := 26) hx hb dX7_day_9 (by decide) ?_
    refine va_put (D := (dC, dI)) (ci := 7) (v := .int (1 : Int32)) (ty := .int) (C := RX7) (T := TX7) (N := 15) hx hb hts hin7 tyX7 tyX7_ok nmX7 hown hK hP hD hS 0 rfl rfl 7 (by decide) (hw_ hts 1 rfl) (fun _ h9 => h9) rfl (by decide +kernel) rfl rfl (Nat.le_of_ble_eq_true rfl) dX7_day_26 (fun H2 locs hP hD hS => ?_)
    have hP : va_P (dC, dI) vwCl (wMo cI aM (pset M 7 (fun _ => (1 : Int32))) hs) H2 := hP
    have hD : va_D A (wMo cI aM (pset M 7 (fun _ => (1 : Int32))) hs) := hD
    refine lv_aload_n hx hb dX7_day_29 rfl (lv_at hl 0 rfl) ?_
    refine va_get (D := (dC, dI)) (ci := 7) (v := .int (1 : Int32)) (C := RX7) (T := TX7) (N := 15) hx hb hts hin7 hown hK hP 0 rfl rfl 7 (by decide) (hw_ hts 1 rfl) (fun _ h9 => h9) rfl dX7_day_30 ?_
    refine lv_if_le (tgt := 40) hx hb dX7_day_33 (by decide) (fun q => absurd q (by decide)) (fun _ => ?_)
    refine lv_iconst (v := (0 : Int32)) hx hb dX7_day_36 (by decide) ?_
    refine lv_goto (tgt := 46) hx hb dX7_day_37 (by decide) ?_
    exact W.iret (v := (0 : Int32)) hx hb hr (fun t ht hW => ⟨⟨(0 : Int32), (pset M 7 (fun _ => (1 : Int32))), rfl, Option.some.inj hR, P_at ht hP⟩, hS.F ht⟩) hS.2.2 dX7_day_46
abbrev rm_X7_sourceNow : Room := { frames := 5, cells := 0, slots := 0, locals := 114 }
abbrev q_X7_sourceNow (dC : Nat → ClassId) (dI : Nat → Nat → Nat) (cI cZ cS : ClassId) (aM : Nat → Nat) (hs : Int64) (res : Int32 × Pic) (A : Nat → Prop) : Array Value → State → Outcome → State → Prop := va_Qi (fun (r : Int32) (u : Pic) => (r, u) = res) (fun u t => va_P (dC, dI) vwCl (wMo cI aM u hs) t.heap) A
set_option maxHeartbeats 4000000 in
set_option maxRecDepth 100000 in
theorem met_X7_sourceNow (l : Launch) (dC : Nat → ClassId) (dI : Nat → Nat → Nat) (cI cZ cS : ClassId) (aM : Nat → Nat) (M : Pic) (hs : Int64) (sz : Nat) (p1 : Int32) (p2 : Int32) (res : Int32 × Pic) (hR : f7_sourceNow M p1 p2 = some res) : Met l yX7_sourceNow wsX7_sourceNow rm_X7_sourceNow (va_Pc [.ref (aM 0), .int p1, .int p2] (pW (dC, dI) (tyS cI cZ cS) (wMo cI aM M hs) sz)) (q_X7_sourceNow dC dI cI cZ cS aM hs res (va_A (wMo cI aM M hs) sz)) 0 0 (va_A (wMo cI aM M hs) sz) := by
  refine Met.ofW (cc := cX7_sourceNow) (maxL := 5) (ret := (some .int)) (by decide) rfl ?_
  intro p e s m args below meth c s₁ B hml hv
  obtain ⟨rfl, hsz, hP, hK, hD0, hN⟩ := hv
  have hx := B.exec
  have hb := B.bytes
  have hr := B.returns
  have hts := atoms_spec (ws := wsX7_sourceNow) B.pre
  have hown : s.vm.findClass RX7 = some m.cls := findClass_of_methodNamed B.named
  have hlocks := B.notSynchronized
  subst hsz
  have hD := hD0.self (sz := s.heap.size)
  generalize hAe : va_A (wMo cI aM M hs) s.heap.size = A at hD ⊢
  have hA : ∀ q : Nat, s.heap.size ≤ q → A q := fun q h => by rw [← hAe]; exact Or.inr h
  have hS : va_S A s.heap s.heap [] := va_S.rf
  have hP : va_P (dC, dI) vwCl (wMo cI aM M hs) s.heap := hP
  rw [f7_sourceNow] at hR
  have hin7 : ∀ w ∈ wsX70, w ∈ wsX7_sourceNow := by decide +kernel
  have hl := lv_entry ([.ref (aM 0), .int p1, .int p2]) (n := 5) (Nat.le_of_ble_eq_true rfl)
  rw [lg_entry_eq]
  generalize (lg_sl ([.ref (aM 0), .int p1, .int p2]) ++ List.replicate (5 - (lg_sl ([.ref (aM 0), .int p1, .int p2])).length) Slot.unset).toArray = ls at hl ⊢
  have hl : lv_has ls 5 [(0, .ref (aM 0)), (1, .int p1), (2, .int p2)] := hl
  refine lv_aload_n hx hb dX7_sourceNow_0 rfl (lv_at hl 0 rfl) ?_
  obtain ⟨r1, u2, hc3, hR⟩ := ob2_e hR
  have hF := va_free (wc := wMo cI aM M hs) hD hS hA [0, 1, 2, 3, 4, 5, 6, 7, 8] rfl
  refine va_calli (va_runV (As := []) (rest := []) ⟨hx, hb, hml, hown, hts⟩ (met_X7_match l dC dI cI cZ cS aM M hs s.heap.size (r1, u2) hc3) (cwV 0 hts gX7_sourceNow_X7_match rfl rfl rfl (by decide +kernel) ⟨Nat.le_of_ble_eq_true rfl, Nat.le_of_ble_eq_true rfl⟩) (pV (wc := wMo cI aM M hs) (ci := 7) (q0 := 0) hK hP hD hN [0, 1, 2, 3, 4, 5, 6, 7, 8] rfl (by decide) rfl rfl) rfl rfl hl.1 rfl (lv_room (Nat.le_of_ble_eq_true rfl)) dX7_sourceNow_1 ⟨Nat.zero_le _, Nat.zero_le _⟩) hS (fun q _ h => hF q h) hF (fun r1 u2 t H1 locs ht hvm hw hB hz1 hk1 hS => ?_)
  obtain ⟨hw, nb4⟩ := hw
  try dsimp only at hw hB
  rw [ht] at hB
  cases hw
  have hP := wrk (w2 := wMo cI aM u2 hs) hP hD [0, 1, 2, 3, 4, 5, 6, 7, 8] rfl (by decide) hk1 hB rfl rfl
  have hD := D_addr (w1 := wMo cI aM u2 hs) hD rfl
  refine lv_istore_n (lv' := [(3, .int r1), (0, .ref (aM 0)), (1, .int p1), (2, .int p2)]) hx hb dX7_sourceNow_4 rfl hl (by decide) rfl (fun ls hl => ?_)
  refine lv_aload_n hx hb dX7_sourceNow_5 rfl (lv_at hl 1 rfl) ?_
  refine va_get (D := (dC, dI)) (ci := 7) (v := .ref (aM 6)) (C := RX7) (T := TX7) (N := 15) hx hb hts hin7 hown hK hP 0 rfl rfl 8 (by decide) (hw_ hts 1 rfl) (fun _ h9 => h9) rfl dX7_sourceNow_6 ?_
  refine lv_iconst (v := (3 : Int32)) hx hb dX7_sourceNow_9 (by decide) ?_
  refine lv_iload_n hx hb dX7_sourceNow_10 rfl (lv_at hl 2 rfl) ?_
  refine lv_imul hx hb dX7_sourceNow_11 ?_
  refine lv_iload_n hx hb dX7_sourceNow_12 rfl (lv_at hl 3 rfl) ?_
  refine lv_iadd hx hb dX7_sourceNow_13 ?_
  obtain ⟨hix5, hR⟩ := ck_some hR
  refine va_iald (f := (u2 8)) hx hb hK hP 6 0 rfl rfl hix5 dX7_sourceNow_14 ?_
  refine lv_topi (fun v6 hv6 => ?_)
  have hR := bd_n hv6 hR
  refine lv_istore (lv' := [(4, .int v6), (3, .int r1), (0, .ref (aM 0)), (1, .int p1), (2, .int p2)]) hx hb dX7_sourceNow_15 hl (by decide) rfl (fun ls hl => ?_)
  refine lv_iload_n hx hb dX7_sourceNow_17 rfl (lv_at hl 1 rfl) ?_
  refine lv_if_eq (tgt := 34) hx hb dX7_sourceNow_18 (by decide) (fun c_7 => ?_) (fun c_7 => ?_)
  · rw [if_pos c_7] at hR
    refine lv_iconst (v := (-1 : Int32)) hx hb dX7_sourceNow_34 (by decide) ?_
    exact W.iret (v := (-1 : Int32)) hx hb hr (fun t ht hW => ⟨⟨(-1 : Int32), u2, rfl, Option.some.inj hR, P_at ht hP⟩, hS.F ht⟩) hS.2.2 dX7_sourceNow_35
  · rw [if_neg c_7] at hR
    refine lv_iload hx hb dX7_sourceNow_21 (lv_at hl 0 rfl) ?_
    refine lv_iconst (v := (-1 : Int32)) hx hb dX7_sourceNow_23 (by decide) ?_
    refine lv_icmp_eq (tgt := 34) hx hb dX7_sourceNow_24 (by decide) (fun c_8 => ?_) (fun c_8 => ?_)
    · rw [if_pos c_8] at hR
      refine lv_iconst (v := (-1 : Int32)) hx hb dX7_sourceNow_34 (by decide) ?_
      exact W.iret (v := (-1 : Int32)) hx hb hr (fun t ht hW => ⟨⟨(-1 : Int32), u2, rfl, Option.some.inj hR, P_at ht hP⟩, hS.F ht⟩) hS.2.2 dX7_sourceNow_35
    · rw [if_neg c_8] at hR
      refine lv_iload hx hb dX7_sourceNow_27 (lv_at hl 0 rfl) ?_
      refine lv_iconst (v := (3 : Int32)) hx hb dX7_sourceNow_29 (by decide) ?_
      refine lv_idiv hx hb dX7_sourceNow_30 (by decide) ?_
      refine lv_goto (tgt := 35) hx hb dX7_sourceNow_31 (by decide) ?_
      exact W.iret (v := (v6 / (3 : Int32))) hx hb hr (fun t ht hW => ⟨⟨(v6 / (3 : Int32)), u2, rfl, Option.some.inj hR, P_at ht hP⟩, hS.F ht⟩) hS.2.2 dX7_sourceNow_35
abbrev rm_X7_source : Room := { frames := 6, cells := 0, slots := 0, locals := 138 }
abbrev q_X7_source (dC : Nat → ClassId) (dI : Nat → Nat → Nat) (cI cZ cS : ClassId) (aM : Nat → Nat) (hs : Int64) (res : Int32 × Pic) (A : Nat → Prop) : Array Value → State → Outcome → State → Prop := va_Qi (fun (r : Int32) (u : Pic) => (r, u) = res) (fun u t => va_P (dC, dI) vwCl (wMo cI aM u hs) t.heap) A
set_option maxHeartbeats 4000000 in
set_option maxRecDepth 100000 in
theorem met_X7_source (l : Launch) (dC : Nat → ClassId) (dI : Nat → Nat → Nat) (cI cZ cS : ClassId) (aM : Nat → Nat) (M : Pic) (hs : Int64) (sz : Nat) (p1 : Int32) (p2 : Int32) (res : Int32 × Pic) (hR : f7_source M p1 p2 = some res) : Met l yX7_source wsX7_source rm_X7_source (va_Pc [.ref (aM 0), .int p1, .int p2] (pW (dC, dI) (tyS cI cZ cS) (wMo cI aM M hs) sz)) (q_X7_source dC dI cI cZ cS aM hs res (va_A (wMo cI aM M hs) sz)) 0 0 (va_A (wMo cI aM M hs) sz) := by
  refine Met.ofW (cc := cX7_source) (maxL := 3) (ret := (some .int)) (by decide) rfl ?_
  intro p e s m args below meth c s₁ B hml hv
  obtain ⟨rfl, hsz, hP, hK, hD0, hN⟩ := hv
  have hx := B.exec
  have hb := B.bytes
  have hr := B.returns
  have hts := atoms_spec (ws := wsX7_source) B.pre
  have hown : s.vm.findClass RX7 = some m.cls := findClass_of_methodNamed B.named
  have hlocks := B.notSynchronized
  subst hsz
  have hD := hD0.self (sz := s.heap.size)
  generalize hAe : va_A (wMo cI aM M hs) s.heap.size = A at hD ⊢
  have hA : ∀ q : Nat, s.heap.size ≤ q → A q := fun q h => by rw [← hAe]; exact Or.inr h
  have hS : va_S A s.heap s.heap [] := va_S.rf
  have hP : va_P (dC, dI) vwCl (wMo cI aM M hs) s.heap := hP
  rw [f7_source] at hR
  have hin7 : ∀ w ∈ wsX70, w ∈ wsX7_source := by decide +kernel
  have hl := lv_entry ([.ref (aM 0), .int p1, .int p2]) (n := 3) (Nat.le_of_ble_eq_true rfl)
  rw [lg_entry_eq]
  generalize (lg_sl ([.ref (aM 0), .int p1, .int p2]) ++ List.replicate (3 - (lg_sl ([.ref (aM 0), .int p1, .int p2])).length) Slot.unset).toArray = ls at hl ⊢
  have hl : lv_has ls 3 [(0, .ref (aM 0)), (1, .int p1), (2, .int p2)] := hl
  refine lv_aload_n hx hb dX7_source_0 rfl (lv_at hl 0 rfl) ?_
  refine lv_iload_n hx hb dX7_source_1 rfl (lv_at hl 1 rfl) ?_
  refine va_calli (va_runS (As := [.int p1]) (rest := [.ref (aM 0)]) ⟨hx, hb, hml, hown, hts⟩ (met_X7_isDay l dC dI cI cZ cS s.heap.size p1) (va_cwS 1 hts gX7_source_X7_isDay rfl rfl rfl (by decide +kernel) ⟨Nat.le_of_ble_eq_true rfl, Nat.le_of_ble_eq_true rfl⟩) (pS (wc := []) hK hP hD hN [] rfl (by decide)) rfl rfl hl.1 rfl (lv_room (Nat.le_of_ble_eq_true rfl)) dX7_source_2 ⟨Nat.zero_le _, Nat.zero_le _⟩) hS (fun q _ h => a0_in hS hA q h) (a0_in hS hA) (fun r1 u t H1 locs ht hvm hw hB hz1 hk1 hS => ?_)
  obtain ⟨hw, nb2⟩ := hw
  subst hw
  have hP := rdk hP hk1
  refine lv_if_eq (tgt := 19) hx hb dX7_source_5 (by decide) (fun c_3 => ?_) (fun c_3 => ?_)
  · rw [if_pos c_3] at hR
    refine lv_iconst (v := (1 : Int32)) hx hb dX7_source_19 (by decide) ?_
    refine va_put (D := (dC, dI)) (ci := 7) (v := .int (1 : Int32)) (ty := .int) (C := RX7) (T := TX7) (N := 15) hx hb hts hin7 tyX7 tyX7_ok nmX7 hown hK hP hD hS 0 rfl rfl 7 (by decide) (hw_ hts 1 rfl) (fun _ h9 => h9) rfl (by decide +kernel) rfl rfl (Nat.le_of_ble_eq_true rfl) dX7_source_20 (fun H2 locs hP hD hS => ?_)
    have hP : va_P (dC, dI) vwCl (wMo cI aM (pset M 7 (fun _ => (1 : Int32))) hs) H2 := hP
    have hD : va_D A (wMo cI aM (pset M 7 (fun _ => (1 : Int32))) hs) := hD
    refine lv_aload_n hx hb dX7_source_23 rfl (lv_at hl 0 rfl) ?_
    refine va_get (D := (dC, dI)) (ci := 7) (v := .int (1 : Int32)) (C := RX7) (T := TX7) (N := 15) hx hb hts hin7 hown hK hP 0 rfl rfl 7 (by decide) (hw_ hts 1 rfl) (fun _ h9 => h9) rfl dX7_source_24 ?_
    refine lv_if_le (tgt := 34) hx hb dX7_source_27 (by decide) (fun q => absurd q (by decide)) (fun _ => ?_)
    refine lv_iconst (v := (0 : Int32)) hx hb dX7_source_30 (by decide) ?_
    refine lv_goto (tgt := 40) hx hb dX7_source_31 (by decide) ?_
    exact W.iret (v := (0 : Int32)) hx hb hr (fun t ht hW => ⟨⟨(0 : Int32), (pset M 7 (fun _ => (1 : Int32))), rfl, Option.some.inj hR, P_at ht hP⟩, hS.F ht⟩) hS.2.2 dX7_source_40
  · rw [if_neg c_3] at hR
    refine lv_iload_n hx hb dX7_source_8 rfl (lv_at hl 2 rfl) ?_
    refine va_calli (va_runS (As := [.int p2]) (rest := [.ref (aM 0)]) ⟨hx, hb, hml, hown, hts⟩ (met_X7_isPart l dC dI cI cZ cS H1.size p2) (va_cwS 1 hts gX7_source_X7_isPart rfl rfl rfl (by decide +kernel) ⟨Nat.le_of_ble_eq_true rfl, Nat.le_of_ble_eq_true rfl⟩) (pS (wc := []) hK hP hD hN [] rfl (by decide)) rfl rfl hl.1 rfl (lv_room (Nat.le_of_ble_eq_true rfl)) dX7_source_9 ⟨Nat.zero_le _, Nat.zero_le _⟩) hS (fun q _ h => a0_in hS hA q h) (a0_in hS hA) (fun r4 u t H2 locs ht hvm hw hB hz1 hk1 hS => ?_)
    obtain ⟨hw, nb5⟩ := hw
    subst hw
    have hP := rdk hP hk1
    refine lv_if_eq (tgt := 19) hx hb dX7_source_12 (by decide) (fun c_6 => ?_) (fun c_6 => ?_)
    · rw [if_pos c_6] at hR
      refine lv_iconst (v := (1 : Int32)) hx hb dX7_source_19 (by decide) ?_
      refine va_put (D := (dC, dI)) (ci := 7) (v := .int (1 : Int32)) (ty := .int) (C := RX7) (T := TX7) (N := 15) hx hb hts hin7 tyX7 tyX7_ok nmX7 hown hK hP hD hS 0 rfl rfl 7 (by decide) (hw_ hts 1 rfl) (fun _ h9 => h9) rfl (by decide +kernel) rfl rfl (Nat.le_of_ble_eq_true rfl) dX7_source_20 (fun H3 locs hP hD hS => ?_)
      have hP : va_P (dC, dI) vwCl (wMo cI aM (pset M 7 (fun _ => (1 : Int32))) hs) H3 := hP
      have hD : va_D A (wMo cI aM (pset M 7 (fun _ => (1 : Int32))) hs) := hD
      refine lv_aload_n hx hb dX7_source_23 rfl (lv_at hl 0 rfl) ?_
      refine va_get (D := (dC, dI)) (ci := 7) (v := .int (1 : Int32)) (C := RX7) (T := TX7) (N := 15) hx hb hts hin7 hown hK hP 0 rfl rfl 7 (by decide) (hw_ hts 1 rfl) (fun _ h9 => h9) rfl dX7_source_24 ?_
      refine lv_if_le (tgt := 34) hx hb dX7_source_27 (by decide) (fun q => absurd q (by decide)) (fun _ => ?_)
      refine lv_iconst (v := (0 : Int32)) hx hb dX7_source_30 (by decide) ?_
      refine lv_goto (tgt := 40) hx hb dX7_source_31 (by decide) ?_
      exact W.iret (v := (0 : Int32)) hx hb hr (fun t ht hW => ⟨⟨(0 : Int32), (pset M 7 (fun _ => (1 : Int32))), rfl, Option.some.inj hR, P_at ht hP⟩, hS.F ht⟩) hS.2.2 dX7_source_40
    · rw [if_neg c_6] at hR
      refine lv_iconst (v := (0 : Int32)) hx hb dX7_source_15 (by decide) ?_
      refine lv_goto (tgt := 20) hx hb dX7_source_16 (by decide) ?_
      refine va_put (D := (dC, dI)) (ci := 7) (v := .int (0 : Int32)) (ty := .int) (C := RX7) (T := TX7) (N := 15) hx hb hts hin7 tyX7 tyX7_ok nmX7 hown hK hP hD hS 0 rfl rfl 7 (by decide) (hw_ hts 1 rfl) (fun _ h9 => h9) rfl (by decide +kernel) rfl rfl (Nat.le_of_ble_eq_true rfl) dX7_source_20 (fun H3 locs hP hD hS => ?_)
      have hP : va_P (dC, dI) vwCl (wMo cI aM (pset M 7 (fun _ => (0 : Int32))) hs) H3 := hP
      have hD : va_D A (wMo cI aM (pset M 7 (fun _ => (0 : Int32))) hs) := hD
      refine lv_aload_n hx hb dX7_source_23 rfl (lv_at hl 0 rfl) ?_
      refine va_get (D := (dC, dI)) (ci := 7) (v := .int (0 : Int32)) (C := RX7) (T := TX7) (N := 15) hx hb hts hin7 hown hK hP 0 rfl rfl 7 (by decide) (hw_ hts 1 rfl) (fun _ h9 => h9) rfl dX7_source_24 ?_
      refine lv_if_le (tgt := 34) hx hb dX7_source_27 (by decide) (fun _ => ?_) (fun q => absurd (by decide) q)
      refine lv_aload_n hx hb dX7_source_34 rfl (lv_at hl 0 rfl) ?_
      refine lv_iload_n hx hb dX7_source_35 rfl (lv_at hl 1 rfl) ?_
      refine lv_iload_n hx hb dX7_source_36 rfl (lv_at hl 2 rfl) ?_
      obtain ⟨r7, u8, hc9, hR⟩ := ob2_e hR
      have hF := va_free (wc := wMo cI aM (pset M 7 (fun _ => (0 : Int32))) hs) hD hS hA [0, 1, 2, 3, 4, 5, 6, 7, 8] rfl
      refine va_calli (va_runV (As := [.int p1, .int p2]) (rest := []) ⟨hx, hb, hml, hown, hts⟩ (met_X7_sourceNow l dC dI cI cZ cS aM (pset M 7 (fun _ => (0 : Int32))) hs H3.size p1 p2 (r7, u8) hc9) (cwV 2 hts gX7_source_X7_sourceNow rfl rfl rfl (by decide +kernel) ⟨Nat.le_of_ble_eq_true rfl, Nat.le_of_ble_eq_true rfl⟩) (pV (wc := wMo cI aM (pset M 7 (fun _ => (0 : Int32))) hs) (ci := 7) (q0 := 0) hK hP hD hN [0, 1, 2, 3, 4, 5, 6, 7, 8] rfl (by decide) rfl rfl) rfl rfl hl.1 rfl (lv_room (Nat.le_of_ble_eq_true rfl)) dX7_source_37 ⟨Nat.zero_le _, Nat.zero_le _⟩) hS (fun q _ h => hF q h) hF (fun r7 u8 t H4 locs ht hvm hw hB hz1 hk1 hS => ?_)
      try dsimp only at hw hB
      rw [ht] at hB
      cases hw
      have hP := wrk (w2 := wMo cI aM u8 hs) hP hD [0, 1, 2, 3, 4, 5, 6, 7, 8] rfl (by decide) hk1 hB rfl rfl
      have hD := D_addr (w1 := wMo cI aM u8 hs) hD rfl
      exact W.iret (v := r7) hx hb hr (fun t ht hW => ⟨⟨r7, u8, rfl, Option.some.inj hR, P_at ht hP⟩, hS.F ht⟩) hS.2.2 dX7_source_40
abbrev rm_X7_sources : Room := { frames := 5, cells := 0, slots := 0, locals := 114 }
abbrev q_X7_sources (dC : Nat → ClassId) (dI : Nat → Nat → Nat) (cI cZ cS : ClassId) (aM : Nat → Nat) (hs : Int64) (res : Int32 × Pic) (A : Nat → Prop) : Array Value → State → Outcome → State → Prop := va_Qi (fun (r : Int32) (u : Pic) => (r, u) = res) (fun u t => va_P (dC, dI) vwCl (wMo cI aM u hs) t.heap) A
set_option maxHeartbeats 4000000 in
set_option maxRecDepth 100000 in
theorem met_X7_sources (l : Launch) (dC : Nat → ClassId) (dI : Nat → Nat → Nat) (cI cZ cS : ClassId) (aM : Nat → Nat) (M : Pic) (hs : Int64) (sz : Nat) (p1 : Int32) (res : Int32 × Pic) (hR : f7_sources M p1 = some res) : Met l yX7_sources wsX7_sources rm_X7_sources (va_Pc [.ref (aM 0), .int p1] (pW (dC, dI) (tyS cI cZ cS) (wMo cI aM M hs) sz)) (q_X7_sources dC dI cI cZ cS aM hs res (va_A (wMo cI aM M hs) sz)) 0 0 (va_A (wMo cI aM M hs) sz) := by
  refine Met.ofW (cc := cX7_sources) (maxL := 5) (ret := (some .int)) (by decide) rfl ?_
  intro p e s m args below meth c s₁ B hml hv
  obtain ⟨rfl, hsz, hP, hK, hD0, hN⟩ := hv
  have hx := B.exec
  have hb := B.bytes
  have hr := B.returns
  have hts := atoms_spec (ws := wsX7_sources) B.pre
  have hown : s.vm.findClass RX7 = some m.cls := findClass_of_methodNamed B.named
  have hlocks := B.notSynchronized
  subst hsz
  have hD := hD0.self (sz := s.heap.size)
  generalize hAe : va_A (wMo cI aM M hs) s.heap.size = A at hD ⊢
  have hA : ∀ q : Nat, s.heap.size ≤ q → A q := fun q h => by rw [← hAe]; exact Or.inr h
  have hS : va_S A s.heap s.heap [] := va_S.rf
  have hP : va_P (dC, dI) vwCl (wMo cI aM M hs) s.heap := hP
  rw [f7_sources] at hR
  have hin7 : ∀ w ∈ wsX70, w ∈ wsX7_sources := by decide +kernel
  have hl := lv_entry ([.ref (aM 0), .int p1]) (n := 5) (Nat.le_of_ble_eq_true rfl)
  rw [lg_entry_eq]
  generalize (lg_sl ([.ref (aM 0), .int p1]) ++ List.replicate (5 - (lg_sl ([.ref (aM 0), .int p1])).length) Slot.unset).toArray = ls at hl ⊢
  have hl : lv_has ls 5 [(0, .ref (aM 0)), (1, .int p1)] := hl
  refine lv_iconst (v := (0 : Int32)) hx hb dX7_sources_0 (by decide) ?_
  refine lv_istore_n (lv' := [(2, .int (0 : Int32)), (0, .ref (aM 0)), (1, .int p1)]) hx hb dX7_sources_1 rfl hl (by decide) rfl (fun ls hl => ?_)
  refine lv_aload_n hx hb dX7_sources_2 rfl (lv_at hl 1 rfl) ?_
  obtain ⟨r1, u2, hc3, hR⟩ := ob2_e hR
  have hF := va_free (wc := wMo cI aM M hs) hD hS hA [0, 1, 2, 3, 4, 5, 6, 7, 8] rfl
  refine va_calli (va_runV (As := []) (rest := []) ⟨hx, hb, hml, hown, hts⟩ (met_X7_match l dC dI cI cZ cS aM M hs s.heap.size (r1, u2) hc3) (cwV 0 hts gX7_sources_X7_match rfl rfl rfl (by decide +kernel) ⟨Nat.le_of_ble_eq_true rfl, Nat.le_of_ble_eq_true rfl⟩) (pV (wc := wMo cI aM M hs) (ci := 7) (q0 := 0) hK hP hD hN [0, 1, 2, 3, 4, 5, 6, 7, 8] rfl (by decide) rfl rfl) rfl rfl hl.1 rfl (lv_room (Nat.le_of_ble_eq_true rfl)) dX7_sources_3 ⟨Nat.zero_le _, Nat.zero_le _⟩) hS (fun q _ h => hF q h) hF (fun r1 u2 t H1 locs ht hvm hw hB hz1 hk1 hS => ?_)
  obtain ⟨hw, nb4⟩ := hw
  try dsimp only at hw hB
  rw [ht] at hB
  cases hw
  have hP := wrk (w2 := wMo cI aM u2 hs) hP hD [0, 1, 2, 3, 4, 5, 6, 7, 8] rfl (by decide) hk1 hB rfl rfl
  have hD := D_addr (w1 := wMo cI aM u2 hs) hD rfl
  refine lv_istore_n (lv' := [(3, .int r1), (2, .int (0 : Int32)), (0, .ref (aM 0)), (1, .int p1)]) hx hb dX7_sources_6 rfl hl (by decide) rfl (fun ls hl => ?_)
  refine lv_iconst (v := (0 : Int32)) hx hb dX7_sources_7 (by decide) ?_
  refine lv_istore (lv' := [(4, .int (0 : Int32)), (3, .int r1), (2, .int (0 : Int32)), (0, .ref (aM 0)), (1, .int p1)]) hx hb dX7_sources_8 hl (by decide) rfl (fun ls hl => ?_)
  have LOOP10 : ∀ (k : Int32 → Pic → (Option (Int32 × Pic))), (∀ (x2_10 : Int32) (M_10 : Pic) (H2 : Heap) (locs : List Loc), k x2_10 M_10 = some res → va_P (dC, dI) vwCl (wMo cI aM M_10 hs) H2 → va_D A (wMo cI aM M_10 hs) → va_S A s.heap H2 locs → ∀ (ls : Array Slot), lv_has ls 5 [(2, .int x2_10)] → W p l e (headSpec wsX7_sources rm_X7_sources).room s m ([.ref (aM 0), .int p1] : List Value).toArray below meth c H2 locs 0 0 (MQ below (q_X7_sources dC dI cI cZ cS aM hs res A) ([.ref (aM 0), .int p1] : List Value).toArray s 0 0 A) (F0 m 54 ls [])) → ∀ (nf : Nat) (x2_10 : Int32) (x4_10 : Int32) (M_10 : Pic) (H2 : Heap) (locs : List Loc), ((84 : Int32)).toInt - (x4_10).toInt ≤ (nf : Int) → f7_sources_L10 p1 nf x2_10 x4_10 M_10 k = some res → va_P (dC, dI) vwCl (wMo cI aM M_10 hs) H2 → va_D A (wMo cI aM M_10 hs) → va_S A s.heap H2 locs → ∀ (ls : Array Slot), lv_has ls 5 [(2, .int x2_10), (4, .int x4_10), (0, .ref (aM 0)), (1, .int p1)] → W p l e (headSpec wsX7_sources rm_X7_sources).room s m ([.ref (aM 0), .int p1] : List Value).toArray below meth c H2 locs 0 0 (MQ below (q_X7_sources dC dI cI cZ cS aM hs res A) ([.ref (aM 0), .int p1] : List Value).toArray s 0 0 A) (F0 m 10 ls []) := by
    intro k hk nf
    induction nf with
    | zero =>
      intro x2_10 x4_10 M_10 H2 locs hfu hR hP hD hS ls hl
      rw [f7_sources_L10] at hR
      refine lv_iload hx hb dX7_sources_10 (lv_at hl 1 rfl) ?_
      refine lv_bipush (v := (84 : Int32)) hx hb dX7_sources_12 (by decide) ?_
      refine lv_icmp_ge (tgt := 54) hx hb dX7_sources_14 (by decide) (fun c_5 => ?_) (fun c_5 => ?_)
      · skip
        exact hk x2_10 M_10 _ _  hR hP hD hS ls (lv_sub hl [0] rfl)
      · exact (fuel0 hfu c_5).elim
    | succ nf ih =>
      intro x2_10 x4_10 M_10 H2 locs hfu hR hP hD hS ls hl
      rw [f7_sources_L10] at hR
      refine lv_iload hx hb dX7_sources_10 (lv_at hl 1 rfl) ?_
      refine lv_bipush (v := (84 : Int32)) hx hb dX7_sources_12 (by decide) ?_
      refine lv_icmp_ge (tgt := 54) hx hb dX7_sources_14 (by decide) (fun c_6 => ?_) (fun c_6 => ?_)
      · rw [if_pos c_6] at hR
        exact hk x2_10 M_10 _ _  hR hP hD hS ls (lv_sub hl [0] rfl)
      · rw [if_neg c_6] at hR
        have hfu := fuelS hfu c_6
        refine lv_iload_n hx hb dX7_sources_17 rfl (lv_at hl 0 rfl) ?_
        refine lv_aload_n hx hb dX7_sources_18 rfl (lv_at hl 2 rfl) ?_
        refine lv_iload hx hb dX7_sources_19 (lv_at hl 1 rfl) ?_
        obtain ⟨r7, hc8, hR⟩ := ob1_e hR
        refine va_calli (va_runV (As := [.int x4_10]) (rest := [.int x2_10]) ⟨hx, hb, hml, hown, hts⟩ (met_X7_isSource l dC dI cI cZ cS aM M_10 hs H2.size x4_10 r7 hc8) (cwV 1 hts gX7_sources_X7_isSource rfl rfl rfl (by decide +kernel) ⟨Nat.le_of_ble_eq_true rfl, Nat.le_of_ble_eq_true rfl⟩) (pV (wc := wMo cI aM M_10 hs) (ci := 7) (q0 := 0) hK hP hD hN [0, 1, 2, 3, 4, 5, 6, 7, 8] rfl (by decide) rfl rfl) rfl rfl hl.1 rfl (lv_room (Nat.le_of_ble_eq_true rfl)) dX7_sources_21 ⟨Nat.zero_le _, Nat.zero_le _⟩) hS (fun q _ h => a0_in hS hA q h) (a0_in hS hA) (fun r7 u t H3 locs ht hvm hw hB hz1 hk1 hS => ?_)
        obtain ⟨hw, nb9⟩ := hw
        cases hw
        have hP := rdk hP hk1
        refine lv_if_eq (tgt := 45) hx hb dX7_sources_24 (by decide) (fun c_10 => ?_) (fun c_10 => ?_)
        · rw [if_pos c_10] at hR
          refine lv_iconst (v := (0 : Int32)) hx hb dX7_sources_45 (by decide) ?_
          refine lv_iadd hx hb dX7_sources_46 ?_
          refine lv_topi (fun v11 hv11 => ?_)
          have hR := bd_n hv11 hR
          refine lv_istore_n (lv' := [(2, .int v11), (4, .int x4_10), (0, .ref (aM 0)), (1, .int p1)]) hx hb dX7_sources_47 rfl hl (by decide) rfl (fun ls hl => ?_)
          refine lv_iinc (v := (x4_10 + 1)) (lv' := [(4, .int (x4_10 + 1)), (2, .int v11), (0, .ref (aM 0)), (1, .int p1)]) hx hb dX7_sources_48 hl (k := 1) rfl rfl (by decide) rfl (fun ls hl => ?_)
          refine lv_goto (tgt := 10) hx hb dX7_sources_51 (by decide) ?_
          exact ih v11 (x4_10 + 1) M_10 _ _ hfu hR hP hD hS ls (lv_sub hl [1, 0, 2, 3] rfl)
        · rw [if_neg c_10] at hR
          refine lv_iload_n hx hb dX7_sources_27 rfl (lv_at hl 3 rfl) ?_
          refine lv_if_eq (tgt := 41) hx hb dX7_sources_28 (by decide) (fun c_12 => ?_) (fun c_12 => ?_)
          · rw [if_pos c_12] at hR
            refine lv_iconst (v := (1 : Int32)) hx hb dX7_sources_41 (by decide) ?_
            refine lv_goto (tgt := 46) hx hb dX7_sources_42 (by decide) ?_
            refine lv_iadd hx hb dX7_sources_46 ?_
            refine lv_topi (fun v13 hv13 => ?_)
            have hR := bd_n hv13 hR
            refine lv_istore_n (lv' := [(2, .int v13), (4, .int x4_10), (0, .ref (aM 0)), (1, .int p1)]) hx hb dX7_sources_47 rfl hl (by decide) rfl (fun ls hl => ?_)
            refine lv_iinc (v := (x4_10 + 1)) (lv' := [(4, .int (x4_10 + 1)), (2, .int v13), (0, .ref (aM 0)), (1, .int p1)]) hx hb dX7_sources_48 hl (k := 1) rfl rfl (by decide) rfl (fun ls hl => ?_)
            refine lv_goto (tgt := 10) hx hb dX7_sources_51 (by decide) ?_
            exact ih v13 (x4_10 + 1) M_10 _ _ hfu hR hP hD hS ls (lv_sub hl [1, 0, 2, 3] rfl)
          · rw [if_neg c_12] at hR
            refine lv_aload_n hx hb dX7_sources_31 rfl (lv_at hl 2 rfl) ?_
            refine va_get (D := (dC, dI)) (ci := 7) (v := .ref (aM 7)) (C := RX7) (T := TX7) (N := 15) hx hb hts hin7 hown hK hP 0 rfl rfl 9 (by decide) (hw_ hts 1 rfl) (fun _ h9 => h9) rfl dX7_sources_32 ?_
            refine lv_iload hx hb dX7_sources_35 (lv_at hl 1 rfl) ?_
            obtain ⟨hix14, hR⟩ := ck_some hR
            refine va_iald (f := (M_10 9)) hx hb hK hP 7 0 rfl rfl hix14 dX7_sources_37 ?_
            refine lv_if_ne (tgt := 45) hx hb dX7_sources_38 (by decide) (fun c_15 => ?_) (fun c_15 => ?_)
            · rw [if_neg c_15] at hR
              refine lv_iconst (v := (0 : Int32)) hx hb dX7_sources_45 (by decide) ?_
              refine lv_iadd hx hb dX7_sources_46 ?_
              refine lv_topi (fun v16 hv16 => ?_)
              have hR := bd_n hv16 hR
              refine lv_istore_n (lv' := [(2, .int v16), (4, .int x4_10), (0, .ref (aM 0)), (1, .int p1)]) hx hb dX7_sources_47 rfl hl (by decide) rfl (fun ls hl => ?_)
              refine lv_iinc (v := (x4_10 + 1)) (lv' := [(4, .int (x4_10 + 1)), (2, .int v16), (0, .ref (aM 0)), (1, .int p1)]) hx hb dX7_sources_48 hl (k := 1) rfl rfl (by decide) rfl (fun ls hl => ?_)
              refine lv_goto (tgt := 10) hx hb dX7_sources_51 (by decide) ?_
              exact ih v16 (x4_10 + 1) M_10 _ _ hfu hR hP hD hS ls (lv_sub hl [1, 0, 2, 3] rfl)
            · rw [if_pos c_15] at hR
              refine lv_iconst (v := (1 : Int32)) hx hb dX7_sources_41 (by decide) ?_
              refine lv_goto (tgt := 46) hx hb dX7_sources_42 (by decide) ?_
              refine lv_iadd hx hb dX7_sources_46 ?_
              refine lv_topi (fun v17 hv17 => ?_)
              have hR := bd_n hv17 hR
              refine lv_istore_n (lv' := [(2, .int v17), (4, .int x4_10), (0, .ref (aM 0)), (1, .int p1)]) hx hb dX7_sources_47 rfl hl (by decide) rfl (fun ls hl => ?_)
              refine lv_iinc (v := (x4_10 + 1)) (lv' := [(4, .int (x4_10 + 1)), (2, .int v17), (0, .ref (aM 0)), (1, .int p1)]) hx hb dX7_sources_48 hl (k := 1) rfl rfl (by decide) rfl (fun ls hl => ?_)
              refine lv_goto (tgt := 10) hx hb dX7_sources_51 (by decide) ?_
              exact ih v17 (x4_10 + 1) M_10 _ _ hfu hR hP hD hS ls (lv_sub hl [1, 0, 2, 3] rfl)
  refine LOOP10 (fun x2_10 M_10 => (some (x2_10, M_10))) (fun x2_10 M_10 H2 locs hR hP hD hS ls hl => ?_) 84 (0 : Int32) (0 : Int32) u2 _ _ (by decide) hR hP hD hS ls (lv_sub hl [2, 0, 3, 4] rfl)
  try dsimp only at hR
  refine lv_iload_n hx hb dX7_sources_54 rfl (lv_at hl 0 rfl) ?_
  exact W.iret (v := x2_10) hx hb hr (fun t ht hW => ⟨⟨x2_10, M_10, rfl, Option.some.inj hR, P_at ht hP⟩, hS.F ht⟩) hS.2.2 dX7_sources_55
abbrev rm_X7_wholeDays : Room := { frames := 2, cells := 0, slots := 0, locals := 43 }
abbrev q_X7_wholeDays (dC : Nat → ClassId) (dI : Nat → Nat → Nat) (cI cZ cS : ClassId) (aM : Nat → Nat)  (res : Int32) (A : Nat → Prop) : Array Value → State → Outcome → State → Prop := va_Qi (fun (r : Int32) (u : Unit) => r = res) (fun _ _ => True) A
set_option maxHeartbeats 4000000 in
set_option maxRecDepth 100000 in
theorem met_X7_wholeDays (l : Launch) (dC : Nat → ClassId) (dI : Nat → Nat → Nat) (cI cZ cS : ClassId) (aM : Nat → Nat) (M : Pic) (hs : Int64) (sz : Nat)  (res : Int32) (hR : f7_wholeDays M = some res) : Met l yX7_wholeDays wsX7_wholeDays rm_X7_wholeDays (va_Pc [.ref (aM 0)] (pW (dC, dI) (tyS cI cZ cS) (wMo cI aM M hs) sz)) (q_X7_wholeDays dC dI cI cZ cS aM res (a0 sz)) 0 0 (a0 sz) := by
  refine Met.ofW (cc := cX7_wholeDays) (maxL := 3) (ret := (some .int)) (by decide) rfl ?_
  intro p e s m args below meth c s₁ B hml hv
  obtain ⟨rfl, hsz, hP, hK, hD0, hN⟩ := hv
  have hx := B.exec
  have hb := B.bytes
  have hr := B.returns
  have hts := atoms_spec (ws := wsX7_wholeDays) B.pre
  have hown : s.vm.findClass RX7 = some m.cls := findClass_of_methodNamed B.named
  have hlocks := B.notSynchronized
  subst hsz
  have hD := hD0
  have hA : ∀ q : Nat, s.heap.size ≤ q → a0 s.heap.size q := fun q h => Or.inr h
  have hS : va_S (a0 s.heap.size) s.heap s.heap [] := va_S.rf
  have hP : va_P (dC, dI) vwCl (wMo cI aM M hs) s.heap := hP
  rw [f7_wholeDays] at hR
  have hl := lv_entry ([.ref (aM 0)]) (n := 3) (Nat.le_of_ble_eq_true rfl)
  rw [lg_entry_eq]
  generalize (lg_sl ([.ref (aM 0)]) ++ List.replicate (3 - (lg_sl ([.ref (aM 0)])).length) Slot.unset).toArray = ls at hl ⊢
  have hl : lv_has ls 3 [(0, .ref (aM 0))] := hl
  refine lv_iconst (v := (0 : Int32)) hx hb dX7_wholeDays_0 (by decide) ?_
  refine lv_istore_n (lv' := [(1, .int (0 : Int32)), (0, .ref (aM 0))]) hx hb dX7_wholeDays_1 rfl hl (by decide) rfl (fun ls hl => ?_)
  refine lv_iconst (v := (0 : Int32)) hx hb dX7_wholeDays_2 (by decide) ?_
  refine lv_istore_n (lv' := [(2, .int (0 : Int32)), (1, .int (0 : Int32)), (0, .ref (aM 0))]) hx hb dX7_wholeDays_3 rfl hl (by decide) rfl (fun ls hl => ?_)
  have LOOP4 : ∀ (k : Int32 → (Option (Int32))), (∀ (x1_4 : Int32) (H1 : Heap) (locs : List Loc), k x1_4 = some res → va_P (dC, dI) vwCl (wMo cI aM M hs) H1 → va_D (fun _ => True) (wMo cI aM M hs) → va_S (a0 s.heap.size) s.heap H1 locs → ∀ (ls : Array Slot), lv_has ls 3 [(1, .int x1_4)] → W p l e (headSpec wsX7_wholeDays rm_X7_wholeDays).room s m ([.ref (aM 0)] : List Value).toArray below meth c H1 locs 0 0 (MQ below (q_X7_wholeDays dC dI cI cZ cS aM res (a0 s.heap.size)) ([.ref (aM 0)] : List Value).toArray s 0 0 (a0 s.heap.size)) (F0 m 33 ls [])) → ∀ (nf : Nat) (x1_4 : Int32) (x2_4 : Int32) (H1 : Heap) (locs : List Loc), ((28 : Int32)).toInt - (x2_4).toInt ≤ (nf : Int) → f7_wholeDays_L4 M nf x1_4 x2_4 k = some res → va_P (dC, dI) vwCl (wMo cI aM M hs) H1 → va_D (fun _ => True) (wMo cI aM M hs) → va_S (a0 s.heap.size) s.heap H1 locs → ∀ (ls : Array Slot), lv_has ls 3 [(1, .int x1_4), (2, .int x2_4), (0, .ref (aM 0))] → W p l e (headSpec wsX7_wholeDays rm_X7_wholeDays).room s m ([.ref (aM 0)] : List Value).toArray below meth c H1 locs 0 0 (MQ below (q_X7_wholeDays dC dI cI cZ cS aM res (a0 s.heap.size)) ([.ref (aM 0)] : List Value).toArray s 0 0 (a0 s.heap.size)) (F0 m 4 ls []) := by
    intro k hk nf
    induction nf with
    | zero =>
      intro x1_4 x2_4 H1 locs hfu hR hP hD hS ls hl
      rw [f7_wholeDays_L4] at hR
      refine lv_iload_n hx hb dX7_wholeDays_4 rfl (lv_at hl 1 rfl) ?_
      refine lv_bipush (v := (28 : Int32)) hx hb dX7_wholeDays_5 (by decide) ?_
      refine lv_icmp_ge (tgt := 33) hx hb dX7_wholeDays_7 (by decide) (fun c_1 => ?_) (fun c_1 => ?_)
      · skip
        exact hk x1_4 _ _  hR hP hD hS ls (lv_sub hl [0] rfl)
      · exact (fuel0 hfu c_1).elim
    | succ nf ih =>
      intro x1_4 x2_4 H1 locs hfu hR hP hD hS ls hl
      rw [f7_wholeDays_L4] at hR
      refine lv_iload_n hx hb dX7_wholeDays_4 rfl (lv_at hl 1 rfl) ?_
      refine lv_bipush (v := (28 : Int32)) hx hb dX7_wholeDays_5 (by decide) ?_
      refine lv_icmp_ge (tgt := 33) hx hb dX7_wholeDays_7 (by decide) (fun c_2 => ?_) (fun c_2 => ?_)
      · rw [if_pos c_2] at hR
        exact hk x1_4 _ _  hR hP hD hS ls (lv_sub hl [0] rfl)
      · rw [if_neg c_2] at hR
        have hfu := fuelS hfu c_2
        refine lv_iload_n hx hb dX7_wholeDays_10 rfl (lv_at hl 0 rfl) ?_
        refine lv_aload_n hx hb dX7_wholeDays_11 rfl (lv_at hl 2 rfl) ?_
        refine lv_iload_n hx hb dX7_wholeDays_12 rfl (lv_at hl 1 rfl) ?_
        obtain ⟨r3, hc4, hR⟩ := ob1_e hR
        refine va_calli (va_runV (As := [.int x2_4]) (rest := [.int x1_4]) ⟨hx, hb, hml, hown, hts⟩ (met_X7_dishesOf l dC dI cI cZ cS aM M hs H1.size x2_4 r3 hc4) (cwV 1 hts gX7_wholeDays_X7_dishesOf rfl rfl rfl (by decide +kernel) ⟨Nat.le_of_ble_eq_true rfl, Nat.le_of_ble_eq_true rfl⟩) (pV (wc := wMo cI aM M hs) (ci := 7) (q0 := 0) hK hP hD hN [0, 1, 2, 3, 4, 5, 6, 7, 8] rfl (by decide) rfl rfl) rfl rfl hl.1 rfl (lv_room (Nat.le_of_ble_eq_true rfl)) dX7_wholeDays_13 ⟨Nat.zero_le _, Nat.zero_le _⟩) hS (fun q _ h => a0_in hS hA q h) (a0_in hS hA) (fun r3 u t H2 locs ht hvm hw hB hz1 hk1 hS => ?_)
        cases hw
        have hP := rdk hP hk1
        refine lv_iconst (v := (3 : Int32)) hx hb dX7_wholeDays_16 (by decide) ?_
        refine lv_icmp_ne (tgt := 24) hx hb dX7_wholeDays_17 (by decide) (fun c_5 => ?_) (fun c_5 => ?_)
        · rw [if_neg c_5] at hR
          refine lv_iconst (v := (0 : Int32)) hx hb dX7_wholeDays_24 (by decide) ?_
          refine lv_iadd hx hb dX7_wholeDays_25 ?_
          refine lv_topi (fun v6 hv6 => ?_)
          have hR := bd_n hv6 hR
          refine lv_istore_n (lv' := [(1, .int v6), (2, .int x2_4), (0, .ref (aM 0))]) hx hb dX7_wholeDays_26 rfl hl (by decide) rfl (fun ls hl => ?_)
          refine lv_iinc (v := (x2_4 + 1)) (lv' := [(2, .int (x2_4 + 1)), (1, .int v6), (0, .ref (aM 0))]) hx hb dX7_wholeDays_27 hl (k := 1) rfl rfl (by decide) rfl (fun ls hl => ?_)
          refine lv_goto (tgt := 4) hx hb dX7_wholeDays_30 (by decide) ?_
          exact ih v6 (x2_4 + 1) _ _ hfu hR hP hD hS ls (lv_sub hl [1, 0, 2] rfl)
        · rw [if_pos c_5] at hR
          refine lv_iconst (v := (1 : Int32)) hx hb dX7_wholeDays_20 (by decide) ?_
          refine lv_goto (tgt := 25) hx hb dX7_wholeDays_21 (by decide) ?_
          refine lv_iadd hx hb dX7_wholeDays_25 ?_
          refine lv_topi (fun v7 hv7 => ?_)
          have hR := bd_n hv7 hR
          refine lv_istore_n (lv' := [(1, .int v7), (2, .int x2_4), (0, .ref (aM 0))]) hx hb dX7_wholeDays_26 rfl hl (by decide) rfl (fun ls hl => ?_)
          refine lv_iinc (v := (x2_4 + 1)) (lv' := [(2, .int (x2_4 + 1)), (1, .int v7), (0, .ref (aM 0))]) hx hb dX7_wholeDays_27 hl (k := 1) rfl rfl (by decide) rfl (fun ls hl => ?_)
          refine lv_goto (tgt := 4) hx hb dX7_wholeDays_30 (by decide) ?_
          exact ih v7 (x2_4 + 1) _ _ hfu hR hP hD hS ls (lv_sub hl [1, 0, 2] rfl)
  refine LOOP4 (fun x1_4 => (some x1_4)) (fun x1_4 H1 locs hR hP hD hS ls hl => ?_) 28 (0 : Int32) (0 : Int32) _ _ (by decide) hR hP hD hS ls (lv_sub hl [1, 0, 2] rfl)
  try dsimp only at hR
  refine lv_iload_n hx hb dX7_wholeDays_33 rfl (lv_at hl 0 rfl) ?_
  exact W.iret (v := x1_4) hx hb hr (fun t ht hW => ⟨⟨x1_4, (), rfl, Option.some.inj hR, trivial⟩, hS.F ht⟩) hS.2.2 dX7_wholeDays_34
abbrev rm_X7_costOfAll : Room := { frames := 3, cells := 0, slots := 0, locals := 68 }
abbrev q_X7_costOfAll (dC : Nat → ClassId) (dI : Nat → Nat → Nat) (cI cZ cS : ClassId) (aM : Nat → Nat)  (res : Int32) (A : Nat → Prop) : Array Value → State → Outcome → State → Prop := va_Qi (fun (r : Int32) (u : Unit) => r = res) (fun _ _ => True) A
set_option maxHeartbeats 4000000 in
set_option maxRecDepth 100000 in
theorem met_X7_costOfAll (l : Launch) (dC : Nat → ClassId) (dI : Nat → Nat → Nat) (cI cZ cS : ClassId) (aM : Nat → Nat) (M : Pic) (hs : Int64) (sz : Nat)  (res : Int32) (hR : f7_costOfAll M = some res) : Met l yX7_costOfAll wsX7_costOfAll rm_X7_costOfAll (va_Pc [.ref (aM 0)] (pW (dC, dI) (tyS cI cZ cS) (wMo cI aM M hs) sz)) (q_X7_costOfAll dC dI cI cZ cS aM res (a0 sz)) 0 0 (a0 sz) := by
  refine Met.ofW (cc := cX7_costOfAll) (maxL := 1) (ret := (some .int)) (by decide) rfl ?_
  intro p e s m args below meth c s₁ B hml hv
  obtain ⟨rfl, hsz, hP, hK, hD0, hN⟩ := hv
  have hx := B.exec
  have hb := B.bytes
  have hr := B.returns
  have hts := atoms_spec (ws := wsX7_costOfAll) B.pre
  have hown : s.vm.findClass RX7 = some m.cls := findClass_of_methodNamed B.named
  have hlocks := B.notSynchronized
  subst hsz
  have hD := hD0
  have hA : ∀ q : Nat, s.heap.size ≤ q → a0 s.heap.size q := fun q h => Or.inr h
  have hS : va_S (a0 s.heap.size) s.heap s.heap [] := va_S.rf
  have hP : va_P (dC, dI) vwCl (wMo cI aM M hs) s.heap := hP
  rw [f7_costOfAll] at hR
  have hl := lv_entry ([.ref (aM 0)]) (n := 1) (Nat.le_of_ble_eq_true rfl)
  rw [lg_entry_eq]
  generalize (lg_sl ([.ref (aM 0)]) ++ List.replicate (1 - (lg_sl ([.ref (aM 0)])).length) Slot.unset).toArray = ls at hl ⊢
  have hl : lv_has ls 1 [(0, .ref (aM 0))] := hl
  refine lv_aload_n hx hb dX7_costOfAll_0 rfl (lv_at hl 0 rfl) ?_
  refine lv_iconst (v := (0 : Int32)) hx hb dX7_costOfAll_1 (by decide) ?_
  obtain ⟨r1, hc2, hR⟩ := ob1_e hR
  refine va_calli (va_runV (As := [.int (0 : Int32)]) (rest := []) ⟨hx, hb, hml, hown, hts⟩ (met_X7_weekCost l dC dI cI cZ cS aM M hs s.heap.size (0 : Int32) r1 hc2) (cwV 1 hts gX7_costOfAll_X7_weekCost rfl rfl rfl (by decide +kernel) ⟨Nat.le_of_ble_eq_true rfl, Nat.le_of_ble_eq_true rfl⟩) (pV (wc := wMo cI aM M hs) (ci := 7) (q0 := 0) hK hP hD hN [0, 1, 2, 3, 4, 5, 6, 7, 8] rfl (by decide) rfl rfl) rfl rfl hl.1 rfl (lv_room (Nat.le_of_ble_eq_true rfl)) dX7_costOfAll_2 ⟨Nat.zero_le _, Nat.zero_le _⟩) hS (fun q _ h => a0_in hS hA q h) (a0_in hS hA) (fun r1 u t H1 locs ht hvm hw hB hz1 hk1 hS => ?_)
  cases hw
  have hP := rdk hP hk1
  refine lv_aload_n hx hb dX7_costOfAll_5 rfl (lv_at hl 0 rfl) ?_
  refine lv_iconst (v := (1 : Int32)) hx hb dX7_costOfAll_6 (by decide) ?_
  obtain ⟨r3, hc4, hR⟩ := ob1_e hR
  refine va_calli (va_runV (As := [.int (1 : Int32)]) (rest := [.int r1]) ⟨hx, hb, hml, hown, hts⟩ (met_X7_weekCost l dC dI cI cZ cS aM M hs H1.size (1 : Int32) r3 hc4) (cwV 1 hts gX7_costOfAll_X7_weekCost rfl rfl rfl (by decide +kernel) ⟨Nat.le_of_ble_eq_true rfl, Nat.le_of_ble_eq_true rfl⟩) (pV (wc := wMo cI aM M hs) (ci := 7) (q0 := 0) hK hP hD hN [0, 1, 2, 3, 4, 5, 6, 7, 8] rfl (by decide) rfl rfl) rfl rfl hl.1 rfl (lv_room (Nat.le_of_ble_eq_true rfl)) dX7_costOfAll_7 ⟨Nat.zero_le _, Nat.zero_le _⟩) hS (fun q _ h => a0_in hS hA q h) (a0_in hS hA) (fun r3 u t H2 locs ht hvm hw hB hz1 hk1 hS => ?_)
  cases hw
  have hP := rdk hP hk1
  refine lv_iadd hx hb dX7_costOfAll_10 ?_
  refine lv_aload_n hx hb dX7_costOfAll_11 rfl (lv_at hl 0 rfl) ?_
  refine lv_iconst (v := (2 : Int32)) hx hb dX7_costOfAll_12 (by decide) ?_
  obtain ⟨r5, hc6, hR⟩ := ob1_e hR
  refine va_calli (va_runV (As := [.int (2 : Int32)]) (rest := [.int (r1 + r3)]) ⟨hx, hb, hml, hown, hts⟩ (met_X7_weekCost l dC dI cI cZ cS aM M hs H2.size (2 : Int32) r5 hc6) (cwV 1 hts gX7_costOfAll_X7_weekCost rfl rfl rfl (by decide +kernel) ⟨Nat.le_of_ble_eq_true rfl, Nat.le_of_ble_eq_true rfl⟩) (pV (wc := wMo cI aM M hs) (ci := 7) (q0 := 0) hK hP hD hN [0, 1, 2, 3, 4, 5, 6, 7, 8] rfl (by decide) rfl rfl) rfl rfl hl.1 rfl (lv_room (Nat.le_of_ble_eq_true rfl)) dX7_costOfAll_13 ⟨Nat.zero_le _, Nat.zero_le _⟩) hS (fun q _ h => a0_in hS hA q h) (a0_in hS hA) (fun r5 u t H3 locs ht hvm hw hB hz1 hk1 hS => ?_)
  cases hw
  have hP := rdk hP hk1
  refine lv_iadd hx hb dX7_costOfAll_16 ?_
  refine lv_aload_n hx hb dX7_costOfAll_17 rfl (lv_at hl 0 rfl) ?_
  refine lv_iconst (v := (3 : Int32)) hx hb dX7_costOfAll_18 (by decide) ?_
  obtain ⟨r7, hc8, hR⟩ := ob1_e hR
  refine va_calli (va_runV (As := [.int (3 : Int32)]) (rest := [.int ((r1 + r3) + r5)]) ⟨hx, hb, hml, hown, hts⟩ (met_X7_weekCost l dC dI cI cZ cS aM M hs H3.size (3 : Int32) r7 hc8) (cwV 1 hts gX7_costOfAll_X7_weekCost rfl rfl rfl (by decide +kernel) ⟨Nat.le_of_ble_eq_true rfl, Nat.le_of_ble_eq_true rfl⟩) (pV (wc := wMo cI aM M hs) (ci := 7) (q0 := 0) hK hP hD hN [0, 1, 2, 3, 4, 5, 6, 7, 8] rfl (by decide) rfl rfl) rfl rfl hl.1 rfl (lv_room (Nat.le_of_ble_eq_true rfl)) dX7_costOfAll_19 ⟨Nat.zero_le _, Nat.zero_le _⟩) hS (fun q _ h => a0_in hS hA q h) (a0_in hS hA) (fun r7 u t H4 locs ht hvm hw hB hz1 hk1 hS => ?_)
  cases hw
  have hP := rdk hP hk1
  refine lv_iadd hx hb dX7_costOfAll_22 ?_
  exact W.iret (v := (((r1 + r3) + r5) + r7)) hx hb hr (fun t ht hW => ⟨⟨(((r1 + r3) + r5) + r7), (), rfl, Option.some.inj hR, trivial⟩, hS.F ht⟩) hS.2.2 dX7_costOfAll_23
abbrev rm_X7_counted : Room := { frames := 6, cells := 0, slots := 0, locals := 138 }
abbrev q_X7_counted (dC : Nat → ClassId) (dI : Nat → Nat → Nat) (cI cZ cS : ClassId) (aM : Nat → Nat) (hs : Int64) (res : Int32 × Pic) (A : Nat → Prop) : Array Value → State → Outcome → State → Prop := va_Qi (fun (r : Int32) (u : Pic) => (r, u) = res) (fun u t => va_P (dC, dI) vwCl (wMo cI aM u hs) t.heap) A
set_option maxHeartbeats 4000000 in
set_option maxRecDepth 100000 in
theorem met_X7_counted (l : Launch) (dC : Nat → ClassId) (dI : Nat → Nat → Nat) (cI cZ cS : ClassId) (aM : Nat → Nat) (M : Pic) (hs : Int64) (sz : Nat) (p1 : Int32) (res : Int32 × Pic) (hR : f7_counted M p1 = some res) : Met l yX7_counted wsX7_counted rm_X7_counted (va_Pc [.ref (aM 0), .int p1] (pW (dC, dI) (tyS cI cZ cS) (wMo cI aM M hs) sz)) (q_X7_counted dC dI cI cZ cS aM hs res (va_A (wMo cI aM M hs) sz)) 0 0 (va_A (wMo cI aM M hs) sz) := by
  refine Met.ofW (cc := cX7_counted) (maxL := 2) (ret := (some .int)) (by decide) rfl ?_
  intro p e s m args below meth c s₁ B hml hv
  obtain ⟨rfl, hsz, hP, hK, hD0, hN⟩ := hv
  have hx := B.exec
  have hb := B.bytes
  have hr := B.returns
  have hts := atoms_spec (ws := wsX7_counted) B.pre
  have hown : s.vm.findClass RX7 = some m.cls := findClass_of_methodNamed B.named
  have hlocks := B.notSynchronized
  subst hsz
  have hD := hD0.self (sz := s.heap.size)
  generalize hAe : va_A (wMo cI aM M hs) s.heap.size = A at hD ⊢
  have hA : ∀ q : Nat, s.heap.size ≤ q → A q := fun q h => by rw [← hAe]; exact Or.inr h
  have hS : va_S A s.heap s.heap [] := va_S.rf
  have hP : va_P (dC, dI) vwCl (wMo cI aM M hs) s.heap := hP
  rw [f7_counted] at hR
  have hin7 : ∀ w ∈ wsX70, w ∈ wsX7_counted := by decide +kernel
  have hl := lv_entry ([.ref (aM 0), .int p1]) (n := 2) (Nat.le_of_ble_eq_true rfl)
  rw [lg_entry_eq]
  generalize (lg_sl ([.ref (aM 0), .int p1]) ++ List.replicate (2 - (lg_sl ([.ref (aM 0), .int p1])).length) Slot.unset).toArray = ls at hl ⊢
  have hl : lv_has ls 2 [(0, .ref (aM 0)), (1, .int p1)] := hl
  refine lv_iload_n hx hb dX7_counted_0 rfl (lv_at hl 1 rfl) ?_
  by_cases c_1 : p1 = 0
  · rw [if_pos c_1] at hR
    refine lv_tableIn (tgt := 72) hx hb dX7_counted_1 (by rw [c_1]; decide) (by rw [c_1]; decide) (by rw [c_1]; rfl) (by decide) ?_
    refine lv_aload_n hx hb dX7_counted_72 rfl (lv_at hl 0 rfl) ?_
    refine va_get (D := (dC, dI)) (ci := 7) (v := .ref (aM 1)) (C := RX7) (T := TX7) (N := 15) hx hb hts hin7 hown hK hP 0 rfl rfl 0 (by decide) (hw_ hts 1 rfl) (fun _ h9 => h9) rfl dX7_counted_73 ?_
    refine lv_iconst (v := (3 : Int32)) hx hb dX7_counted_76 (by decide) ?_
    refine va_iald (f := (M 0)) hx hb hK hP 1 0 rfl rfl (vp_in_nI (n := 3) (by decide) (by decide)) dX7_counted_77 ?_
    exact W.iret (v := ((M 0) (ix (3 : Int32)))) hx hb hr (fun t ht hW => ⟨⟨((M 0) (ix (3 : Int32))), M, rfl, Option.some.inj hR, P_at ht hP⟩, hS.F ht⟩) hS.2.2 dX7_counted_78
  rw [if_neg c_1] at hR
  by_cases c_2 : p1 = 1
  · rw [if_pos c_2] at hR
    refine lv_tableIn (tgt := 79) hx hb dX7_counted_1 (by rw [c_2]; decide) (by rw [c_2]; decide) (by rw [c_2]; rfl) (by decide) ?_
    refine lv_aload_n hx hb dX7_counted_79 rfl (lv_at hl 0 rfl) ?_
    refine va_get (D := (dC, dI)) (ci := 7) (v := .ref (aM 1)) (C := RX7) (T := TX7) (N := 15) hx hb hts hin7 hown hK hP 0 rfl rfl 0 (by decide) (hw_ hts 1 rfl) (fun _ h9 => h9) rfl dX7_counted_80 ?_
    refine lv_iconst (v := (4 : Int32)) hx hb dX7_counted_83 (by decide) ?_
    refine va_iald (f := (M 0)) hx hb hK hP 1 0 rfl rfl (vp_in_nI (n := 4) (by decide) (by decide)) dX7_counted_84 ?_
    exact W.iret (v := ((M 0) (ix (4 : Int32)))) hx hb hr (fun t ht hW => ⟨⟨((M 0) (ix (4 : Int32))), M, rfl, Option.some.inj hR, P_at ht hP⟩, hS.F ht⟩) hS.2.2 dX7_counted_85
  rw [if_neg c_2] at hR
  by_cases c_3 : p1 = 2
  · rw [if_pos c_3] at hR
    refine lv_tableIn (tgt := 86) hx hb dX7_counted_1 (by rw [c_3]; decide) (by rw [c_3]; decide) (by rw [c_3]; rfl) (by decide) ?_
    refine lv_aload_n hx hb dX7_counted_86 rfl (lv_at hl 0 rfl) ?_
    obtain ⟨r4, hc5, hR⟩ := ob1_e hR
    refine va_calli (va_runV (As := []) (rest := []) ⟨hx, hb, hml, hown, hts⟩ (met_X7_dishesInPlan l dC dI cI cZ cS aM M hs s.heap.size r4 hc5) (cwV 0 hts gX7_counted_X7_dishesInPlan rfl rfl rfl (by decide +kernel) ⟨Nat.le_of_ble_eq_true rfl, Nat.le_of_ble_eq_true rfl⟩) (pV (wc := wMo cI aM M hs) (ci := 7) (q0 := 0) hK hP hD hN [0, 1, 2, 3, 4, 5, 6, 7, 8] rfl (by decide) rfl rfl) rfl rfl hl.1 rfl (lv_room (Nat.le_of_ble_eq_true rfl)) dX7_counted_87 ⟨Nat.zero_le _, Nat.zero_le _⟩) hS (fun q _ h => a0_in hS hA q h) (a0_in hS hA) (fun r4 u t H1 locs ht hvm hw hB hz1 hk1 hS => ?_)
    cases hw
    have hP := rdk hP hk1
    exact W.iret (v := r4) hx hb hr (fun t ht hW => ⟨⟨r4, M, rfl, Option.some.inj hR, P_at ht hP⟩, hS.F ht⟩) hS.2.2 dX7_counted_90
  rw [if_neg c_3] at hR
  by_cases c_6 : p1 = 3
  · rw [if_pos c_6] at hR
    refine lv_tableIn (tgt := 91) hx hb dX7_counted_1 (by rw [c_6]; decide) (by rw [c_6]; decide) (by rw [c_6]; rfl) (by decide) ?_
    refine lv_aload_n hx hb dX7_counted_91 rfl (lv_at hl 0 rfl) ?_
    obtain ⟨r7, hc8, hR⟩ := ob1_e hR
    refine va_calli (va_runV (As := []) (rest := []) ⟨hx, hb, hml, hown, hts⟩ (met_X7_joyOfAll l dC dI cI cZ cS aM M hs s.heap.size r7 hc8) (cwV 0 hts gX7_counted_X7_joyOfAll rfl rfl rfl (by decide +kernel) ⟨Nat.le_of_ble_eq_true rfl, Nat.le_of_ble_eq_true rfl⟩) (pV (wc := wMo cI aM M hs) (ci := 7) (q0 := 0) hK hP hD hN [0, 1, 2, 3, 4, 5, 6, 7, 8] rfl (by decide) rfl rfl) rfl rfl hl.1 rfl (lv_room (Nat.le_of_ble_eq_true rfl)) dX7_counted_92 ⟨Nat.zero_le _, Nat.zero_le _⟩) hS (fun q _ h => a0_in hS hA q h) (a0_in hS hA) (fun r7 u t H1 locs ht hvm hw hB hz1 hk1 hS => ?_)
    cases hw
    have hP := rdk hP hk1
    exact W.iret (v := r7) hx hb hr (fun t ht hW => ⟨⟨r7, M, rfl, Option.some.inj hR, P_at ht hP⟩, hS.F ht⟩) hS.2.2 dX7_counted_95
  rw [if_neg c_6] at hR
  by_cases c_9 : p1 = 4
  · rw [if_pos c_9] at hR
    refine lv_tableIn (tgt := 96) hx hb dX7_counted_1 (by rw [c_9]; decide) (by rw [c_9]; decide) (by rw [c_9]; rfl) (by decide) ?_
    refine lv_aload_n hx hb dX7_counted_96 rfl (lv_at hl 0 rfl) ?_
    obtain ⟨r10, hc11, hR⟩ := ob1_e hR
    refine va_calli (va_runV (As := []) (rest := []) ⟨hx, hb, hml, hown, hts⟩ (met_X7_costOfAll l dC dI cI cZ cS aM M hs s.heap.size r10 hc11) (cwV 0 hts gX7_counted_X7_costOfAll rfl rfl rfl (by decide +kernel) ⟨Nat.le_of_ble_eq_true rfl, Nat.le_of_ble_eq_true rfl⟩) (pV (wc := wMo cI aM M hs) (ci := 7) (q0 := 0) hK hP hD hN [0, 1, 2, 3, 4, 5, 6, 7, 8] rfl (by decide) rfl rfl) rfl rfl hl.1 rfl (lv_room (Nat.le_of_ble_eq_true rfl)) dX7_counted_97 ⟨Nat.zero_le _, Nat.zero_le _⟩) hS (fun q _ h => a0_in hS hA q h) (a0_in hS hA) (fun r10 u t H1 locs ht hvm hw hB hz1 hk1 hS => ?_)
    cases hw
    have hP := rdk hP hk1
    exact W.iret (v := r10) hx hb hr (fun t ht hW => ⟨⟨r10, M, rfl, Option.some.inj hR, P_at ht hP⟩, hS.F ht⟩) hS.2.2 dX7_counted_100
  rw [if_neg c_9] at hR
  by_cases c_12 : p1 = 5
  · rw [if_pos c_12] at hR
    refine lv_tableIn (tgt := 101) hx hb dX7_counted_1 (by rw [c_12]; decide) (by rw [c_12]; decide) (by rw [c_12]; rfl) (by decide) ?_
    refine lv_aload_n hx hb dX7_counted_101 rfl (lv_at hl 0 rfl) ?_
    refine lv_iconst (v := (0 : Int32)) hx hb dX7_counted_102 (by decide) ?_
    obtain ⟨r13, u14, hc15, hR⟩ := ob2_e hR
    have hF := va_free (wc := wMo cI aM M hs) hD hS hA [0, 1, 2, 3, 4, 5, 6, 7, 8] rfl
    refine va_calli (va_runV (As := [.int (0 : Int32)]) (rest := []) ⟨hx, hb, hml, hown, hts⟩ (met_X7_sources l dC dI cI cZ cS aM M hs s.heap.size (0 : Int32) (r13, u14) hc15) (cwV 1 hts gX7_counted_X7_sources rfl rfl rfl (by decide +kernel) ⟨Nat.le_of_ble_eq_true rfl, Nat.le_of_ble_eq_true rfl⟩) (pV (wc := wMo cI aM M hs) (ci := 7) (q0 := 0) hK hP hD hN [0, 1, 2, 3, 4, 5, 6, 7, 8] rfl (by decide) rfl rfl) rfl rfl hl.1 rfl (lv_room (Nat.le_of_ble_eq_true rfl)) dX7_counted_103 ⟨Nat.zero_le _, Nat.zero_le _⟩) hS (fun q _ h => hF q h) hF (fun r13 u14 t H1 locs ht hvm hw hB hz1 hk1 hS => ?_)
    try dsimp only at hw hB
    rw [ht] at hB
    cases hw
    have hP := wrk (w2 := wMo cI aM u14 hs) hP hD [0, 1, 2, 3, 4, 5, 6, 7, 8] rfl (by decide) hk1 hB rfl rfl
    have hD := D_addr (w1 := wMo cI aM u14 hs) hD rfl
    exact W.iret (v := r13) hx hb hr (fun t ht hW => ⟨⟨r13, u14, rfl, Option.some.inj hR, P_at ht hP⟩, hS.F ht⟩) hS.2.2 dX7_counted_106
  rw [if_neg c_12] at hR
  by_cases c_16 : p1 = 6
  · rw [if_pos c_16] at hR
    refine lv_tableIn (tgt := 107) hx hb dX7_counted_1 (by rw [c_16]; decide) (by rw [c_16]; decide) (by rw [c_16]; rfl) (by decide) ?_
    refine lv_aload_n hx hb dX7_counted_107 rfl (lv_at hl 0 rfl) ?_
    refine lv_iconst (v := (1 : Int32)) hx hb dX7_counted_108 (by decide) ?_
    obtain ⟨r17, u18, hc19, hR⟩ := ob2_e hR
    have hF := va_free (wc := wMo cI aM M hs) hD hS hA [0, 1, 2, 3, 4, 5, 6, 7, 8] rfl
    refine va_calli (va_runV (As := [.int (1 : Int32)]) (rest := []) ⟨hx, hb, hml, hown, hts⟩ (met_X7_sources l dC dI cI cZ cS aM M hs s.heap.size (1 : Int32) (r17, u18) hc19) (cwV 1 hts gX7_counted_X7_sources rfl rfl rfl (by decide +kernel) ⟨Nat.le_of_ble_eq_true rfl, Nat.le_of_ble_eq_true rfl⟩) (pV (wc := wMo cI aM M hs) (ci := 7) (q0 := 0) hK hP hD hN [0, 1, 2, 3, 4, 5, 6, 7, 8] rfl (by decide) rfl rfl) rfl rfl hl.1 rfl (lv_room (Nat.le_of_ble_eq_true rfl)) dX7_counted_109 ⟨Nat.zero_le _, Nat.zero_le _⟩) hS (fun q _ h => hF q h) hF (fun r17 u18 t H1 locs ht hvm hw hB hz1 hk1 hS => ?_)
    try dsimp only at hw hB
    rw [ht] at hB
    cases hw
    have hP := wrk (w2 := wMo cI aM u18 hs) hP hD [0, 1, 2, 3, 4, 5, 6, 7, 8] rfl (by decide) hk1 hB rfl rfl
    have hD := D_addr (w1 := wMo cI aM u18 hs) hD rfl
    exact W.iret (v := r17) hx hb hr (fun t ht hW => ⟨⟨r17, u18, rfl, Option.some.inj hR, P_at ht hP⟩, hS.F ht⟩) hS.2.2 dX7_counted_112
  rw [if_neg c_16] at hR
  by_cases c_20 : p1 = 7
  · rw [if_pos c_20] at hR
    refine lv_tableIn (tgt := 113) hx hb dX7_counted_1 (by rw [c_20]; decide) (by rw [c_20]; decide) (by rw [c_20]; rfl) (by decide) ?_
    refine lv_aload_n hx hb dX7_counted_113 rfl (lv_at hl 0 rfl) ?_
    obtain ⟨r21, hc22, hR⟩ := ob1_e hR
    refine va_calli (va_runV (As := []) (rest := []) ⟨hx, hb, hml, hown, hts⟩ (met_X7_wholeDays l dC dI cI cZ cS aM M hs s.heap.size r21 hc22) (cwV 0 hts gX7_counted_X7_wholeDays rfl rfl rfl (by decide +kernel) ⟨Nat.le_of_ble_eq_true rfl, Nat.le_of_ble_eq_true rfl⟩) (pV (wc := wMo cI aM M hs) (ci := 7) (q0 := 0) hK hP hD hN [0, 1, 2, 3, 4, 5, 6, 7, 8] rfl (by decide) rfl rfl) rfl rfl hl.1 rfl (lv_room (Nat.le_of_ble_eq_true rfl)) dX7_counted_114 ⟨Nat.zero_le _, Nat.zero_le _⟩) hS (fun q _ h => a0_in hS hA q h) (a0_in hS hA) (fun r21 u t H1 locs ht hvm hw hB hz1 hk1 hS => ?_)
    cases hw
    have hP := rdk hP hk1
    exact W.iret (v := r21) hx hb hr (fun t ht hW => ⟨⟨r21, M, rfl, Option.some.inj hR, P_at ht hP⟩, hS.F ht⟩) hS.2.2 dX7_counted_117
  rw [if_neg c_20] at hR
  by_cases c_23 : p1 = 8
  · rw [if_pos c_23] at hR
    refine lv_tableIn (tgt := 137) hx hb dX7_counted_1 (by rw [c_23]; decide) (by rw [c_23]; decide) (by rw [c_23]; rfl) (by decide) ?_
    refine lv_aload_n hx hb dX7_counted_137 rfl (lv_at hl 0 rfl) ?_
    refine lv_iload_n hx hb dX7_counted_138 rfl (lv_at hl 1 rfl) ?_
    refine lv_bipush (v := (8 : Int32)) hx hb dX7_counted_139 (by decide) ?_
    refine lv_isub hx hb dX7_counted_141 ?_
    obtain ⟨r24, hc25, hR⟩ := ob1_e hR
    refine va_calli (va_runV (As := [.int (p1 - (8 : Int32))]) (rest := []) ⟨hx, hb, hml, hown, hts⟩ (met_X7_weekCost l dC dI cI cZ cS aM M hs s.heap.size (p1 - (8 : Int32)) r24 hc25) (cwV 1 hts gX7_counted_X7_weekCost rfl rfl rfl (by decide +kernel) ⟨Nat.le_of_ble_eq_true rfl, Nat.le_of_ble_eq_true rfl⟩) (pV (wc := wMo cI aM M hs) (ci := 7) (q0 := 0) hK hP hD hN [0, 1, 2, 3, 4, 5, 6, 7, 8] rfl (by decide) rfl rfl) rfl rfl hl.1 rfl (lv_room (Nat.le_of_ble_eq_true rfl)) dX7_counted_142 ⟨Nat.zero_le _, Nat.zero_le _⟩) hS (fun q _ h => a0_in hS hA q h) (a0_in hS hA) (fun r24 u t H1 locs ht hvm hw hB hz1 hk1 hS => ?_)
    cases hw
    have hP := rdk hP hk1
    exact W.iret (v := r24) hx hb hr (fun t ht hW => ⟨⟨r24, M, rfl, Option.some.inj hR, P_at ht hP⟩, hS.F ht⟩) hS.2.2 dX7_counted_145
  rw [if_neg c_23] at hR
  by_cases c_26 : p1 = 9
  · rw [if_pos c_26] at hR
    refine lv_tableIn (tgt := 137) hx hb dX7_counted_1 (by rw [c_26]; decide) (by rw [c_26]; decide) (by rw [c_26]; rfl) (by decide) ?_
    refine lv_aload_n hx hb dX7_counted_137 rfl (lv_at hl 0 rfl) ?_
    refine lv_iload_n hx hb dX7_counted_138 rfl (lv_at hl 1 rfl) ?_
    refine lv_bipush (v := (8 : Int32)) hx hb dX7_counted_139 (by decide) ?_
    refine lv_isub hx hb dX7_counted_141 ?_
    obtain ⟨r27, hc28, hR⟩ := ob1_e hR
    refine va_calli (va_runV (As := [.int (p1 - (8 : Int32))]) (rest := []) ⟨hx, hb, hml, hown, hts⟩ (met_X7_weekCost l dC dI cI cZ cS aM M hs s.heap.size (p1 - (8 : Int32)) r27 hc28) (cwV 1 hts gX7_counted_X7_weekCost rfl rfl rfl (by decide +kernel) ⟨Nat.le_of_ble_eq_true rfl, Nat.le_of_ble_eq_true rfl⟩) (pV (wc := wMo cI aM M hs) (ci := 7) (q0 := 0) hK hP hD hN [0, 1, 2, 3, 4, 5, 6, 7, 8] rfl (by decide) rfl rfl) rfl rfl hl.1 rfl (lv_room (Nat.le_of_ble_eq_true rfl)) dX7_counted_142 ⟨Nat.zero_le _, Nat.zero_le _⟩) hS (fun q _ h => a0_in hS hA q h) (a0_in hS hA) (fun r27 u t H1 locs ht hvm hw hB hz1 hk1 hS => ?_)
    cases hw
    have hP := rdk hP hk1
    exact W.iret (v := r27) hx hb hr (fun t ht hW => ⟨⟨r27, M, rfl, Option.some.inj hR, P_at ht hP⟩, hS.F ht⟩) hS.2.2 dX7_counted_145
  rw [if_neg c_26] at hR
  by_cases c_29 : p1 = 10
  · rw [if_pos c_29] at hR
    refine lv_tableIn (tgt := 137) hx hb dX7_counted_1 (by rw [c_29]; decide) (by rw [c_29]; decide) (by rw [c_29]; rfl) (by decide) ?_
    refine lv_aload_n hx hb dX7_counted_137 rfl (lv_at hl 0 rfl) ?_
    refine lv_iload_n hx hb dX7_counted_138 rfl (lv_at hl 1 rfl) ?_
    refine lv_bipush (v := (8 : Int32)) hx hb dX7_counted_139 (by decide) ?_
    refine lv_isub hx hb dX7_counted_141 ?_
    obtain ⟨r30, hc31, hR⟩ := ob1_e hR
    refine va_calli (va_runV (As := [.int (p1 - (8 : Int32))]) (rest := []) ⟨hx, hb, hml, hown, hts⟩ (met_X7_weekCost l dC dI cI cZ cS aM M hs s.heap.size (p1 - (8 : Int32)) r30 hc31) (cwV 1 hts gX7_counted_X7_weekCost rfl rfl rfl (by decide +kernel) ⟨Nat.le_of_ble_eq_true rfl, Nat.le_of_ble_eq_true rfl⟩) (pV (wc := wMo cI aM M hs) (ci := 7) (q0 := 0) hK hP hD hN [0, 1, 2, 3, 4, 5, 6, 7, 8] rfl (by decide) rfl rfl) rfl rfl hl.1 rfl (lv_room (Nat.le_of_ble_eq_true rfl)) dX7_counted_142 ⟨Nat.zero_le _, Nat.zero_le _⟩) hS (fun q _ h => a0_in hS hA q h) (a0_in hS hA) (fun r30 u t H1 locs ht hvm hw hB hz1 hk1 hS => ?_)
    cases hw
    have hP := rdk hP hk1
    exact W.iret (v := r30) hx hb hr (fun t ht hW => ⟨⟨r30, M, rfl, Option.some.inj hR, P_at ht hP⟩, hS.F ht⟩) hS.2.2 dX7_counted_145
  rw [if_neg c_29] at hR
  by_cases c_32 : p1 = 11
  · rw [if_pos c_32] at hR
    refine lv_tableIn (tgt := 137) hx hb dX7_counted_1 (by rw [c_32]; decide) (by rw [c_32]; decide) (by rw [c_32]; rfl) (by decide) ?_
    refine lv_aload_n hx hb dX7_counted_137 rfl (lv_at hl 0 rfl) ?_
    refine lv_iload_n hx hb dX7_counted_138 rfl (lv_at hl 1 rfl) ?_
    refine lv_bipush (v := (8 : Int32)) hx hb dX7_counted_139 (by decide) ?_
    refine lv_isub hx hb dX7_counted_141 ?_
    obtain ⟨r33, hc34, hR⟩ := ob1_e hR
    refine va_calli (va_runV (As := [.int (p1 - (8 : Int32))]) (rest := []) ⟨hx, hb, hml, hown, hts⟩ (met_X7_weekCost l dC dI cI cZ cS aM M hs s.heap.size (p1 - (8 : Int32)) r33 hc34) (cwV 1 hts gX7_counted_X7_weekCost rfl rfl rfl (by decide +kernel) ⟨Nat.le_of_ble_eq_true rfl, Nat.le_of_ble_eq_true rfl⟩) (pV (wc := wMo cI aM M hs) (ci := 7) (q0 := 0) hK hP hD hN [0, 1, 2, 3, 4, 5, 6, 7, 8] rfl (by decide) rfl rfl) rfl rfl hl.1 rfl (lv_room (Nat.le_of_ble_eq_true rfl)) dX7_counted_142 ⟨Nat.zero_le _, Nat.zero_le _⟩) hS (fun q _ h => a0_in hS hA q h) (a0_in hS hA) (fun r33 u t H1 locs ht hvm hw hB hz1 hk1 hS => ?_)
    cases hw
    have hP := rdk hP hk1
    exact W.iret (v := r33) hx hb hr (fun t ht hW => ⟨⟨r33, M, rfl, Option.some.inj hR, P_at ht hP⟩, hS.F ht⟩) hS.2.2 dX7_counted_145
  rw [if_neg c_32] at hR
  by_cases c_35 : p1 = 12
  · rw [if_pos c_35] at hR
    refine lv_tableIn (tgt := 118) hx hb dX7_counted_1 (by rw [c_35]; decide) (by rw [c_35]; decide) (by rw [c_35]; rfl) (by decide) ?_
    refine lv_aload_n hx hb dX7_counted_118 rfl (lv_at hl 0 rfl) ?_
    refine va_get (D := (dC, dI)) (ci := 7) (v := .ref (aM 4)) (C := RX7) (T := TX7) (N := 15) hx hb hts hin7 hown hK hP 0 rfl rfl 4 (by decide) (hw_ hts 2 rfl) (fun _ h9 => h9) rfl dX7_counted_119 ?_
    refine lv_iconst (v := (0 : Int32)) hx hb dX7_counted_122 (by decide) ?_
    refine va_iald (f := (M 4)) hx hb hK hP 4 0 rfl rfl (vp_in_nI (n := 0) (by decide) (by decide)) dX7_counted_123 ?_
    refine lv_aload_n hx hb dX7_counted_124 rfl (lv_at hl 0 rfl) ?_
    refine va_get (D := (dC, dI)) (ci := 7) (v := .ref (aM 4)) (C := RX7) (T := TX7) (N := 15) hx hb hts hin7 hown hK hP 0 rfl rfl 4 (by decide) (hw_ hts 2 rfl) (fun _ h9 => h9) rfl dX7_counted_125 ?_
    refine lv_iconst (v := (1 : Int32)) hx hb dX7_counted_128 (by decide) ?_
    refine va_iald (f := (M 4)) hx hb hK hP 4 0 rfl rfl (vp_in_nI (n := 1) (by decide) (by decide)) dX7_counted_129 ?_
    refine lv_iadd hx hb dX7_counted_130 ?_
    exact W.iret (v := (((M 4) (ix (0 : Int32))) + ((M 4) (ix (1 : Int32))))) hx hb hr (fun t ht hW => ⟨⟨(((M 4) (ix (0 : Int32))) + ((M 4) (ix (1 : Int32)))), M, rfl, Option.some.inj hR, P_at ht hP⟩, hS.F ht⟩) hS.2.2 dX7_counted_131
  rw [if_neg c_35] at hR
  by_cases c_36 : p1 = 13
  · rw [if_pos c_36] at hR
    refine lv_tableIn (tgt := 132) hx hb dX7_counted_1 (by rw [c_36]; decide) (by rw [c_36]; decide) (by rw [c_36]; rfl) (by decide) ?_
    refine lv_aload_n hx hb dX7_counted_132 rfl (lv_at hl 0 rfl) ?_
    refine va_get (D := (dC, dI)) (ci := 7) (v := .int ((M 1) 0)) (C := RX7) (T := TX7) (N := 15) hx hb hts hin7 hown hK hP 0 rfl rfl 1 (by decide) (hw_ hts 3 rfl) (fun _ h9 => h9) rfl dX7_counted_133 ?_
    exact W.iret (v := ((M 1) 0)) hx hb hr (fun t ht hW => ⟨⟨((M 1) 0), M, rfl, Option.some.inj hR, P_at ht hP⟩, hS.F ht⟩) hS.2.2 dX7_counted_136
  rw [if_neg c_36] at hR
  refine lv_tableOut (tgt := 137) hx hb dX7_counted_1 (sw_out [0, 1, 2, 3, 4, 5, 6, 7, 8, 9, 10, 11, 12, 13] (fun z h1 h2 => by simp; omega) (List.forall_mem_cons.mpr ⟨lv_neT (a := 0) c_1 rfl, List.forall_mem_cons.mpr ⟨lv_neT (a := 1) c_2 rfl, List.forall_mem_cons.mpr ⟨lv_neT (a := 2) c_3 rfl, List.forall_mem_cons.mpr ⟨lv_neT (a := 3) c_6 rfl, List.forall_mem_cons.mpr ⟨lv_neT (a := 4) c_9 rfl, List.forall_mem_cons.mpr ⟨lv_neT (a := 5) c_12 rfl, List.forall_mem_cons.mpr ⟨lv_neT (a := 6) c_16 rfl, List.forall_mem_cons.mpr ⟨lv_neT (a := 7) c_20 rfl, List.forall_mem_cons.mpr ⟨lv_neT (a := 8) c_23 rfl, List.forall_mem_cons.mpr ⟨lv_neT (a := 9) c_26 rfl, List.forall_mem_cons.mpr ⟨lv_neT (a := 10) c_29 rfl, List.forall_mem_cons.mpr ⟨lv_neT (a := 11) c_32 rfl, List.forall_mem_cons.mpr ⟨lv_neT (a := 12) c_35 rfl, List.forall_mem_cons.mpr ⟨lv_neT (a := 13) c_36 rfl, fun _ h => absurd h List.not_mem_nil⟩⟩⟩⟩⟩⟩⟩⟩⟩⟩⟩⟩⟩⟩)) (by decide) ?_
  refine lv_aload_n hx hb dX7_counted_137 rfl (lv_at hl 0 rfl) ?_
  refine lv_iload_n hx hb dX7_counted_138 rfl (lv_at hl 1 rfl) ?_
  refine lv_bipush (v := (8 : Int32)) hx hb dX7_counted_139 (by decide) ?_
  refine lv_isub hx hb dX7_counted_141 ?_
  obtain ⟨r37, hc38, hR⟩ := ob1_e hR
  refine va_calli (va_runV (As := [.int (p1 - (8 : Int32))]) (rest := []) ⟨hx, hb, hml, hown, hts⟩ (met_X7_weekCost l dC dI cI cZ cS aM M hs s.heap.size (p1 - (8 : Int32)) r37 hc38) (cwV 1 hts gX7_counted_X7_weekCost rfl rfl rfl (by decide +kernel) ⟨Nat.le_of_ble_eq_true rfl, Nat.le_of_ble_eq_true rfl⟩) (pV (wc := wMo cI aM M hs) (ci := 7) (q0 := 0) hK hP hD hN [0, 1, 2, 3, 4, 5, 6, 7, 8] rfl (by decide) rfl rfl) rfl rfl hl.1 rfl (lv_room (Nat.le_of_ble_eq_true rfl)) dX7_counted_142 ⟨Nat.zero_le _, Nat.zero_le _⟩) hS (fun q _ h => a0_in hS hA q h) (a0_in hS hA) (fun r37 u t H1 locs ht hvm hw hB hz1 hk1 hS => ?_)
  cases hw
  have hP := rdk hP hk1
  exact W.iret (v := r37) hx hb hr (fun t ht hW => ⟨⟨r37, M, rfl, Option.some.inj hR, P_at ht hP⟩, hS.F ht⟩) hS.2.2 dX7_counted_145
abbrev rm_X7_count : Room := { frames := 7, cells := 0, slots := 0, locals := 159 }
abbrev q_X7_count (dC : Nat → ClassId) (dI : Nat → Nat → Nat) (cI cZ cS : ClassId) (aM : Nat → Nat) (hs : Int64) (res : Int32 × Pic) (A : Nat → Prop) : Array Value → State → Outcome → State → Prop := va_Qi (fun (r : Int32) (u : Pic) => (r, u) = res) (fun u t => va_P (dC, dI) vwCl (wMo cI aM u hs) t.heap) A
set_option maxHeartbeats 4000000 in
set_option maxRecDepth 100000 in
theorem met_X7_count (l : Launch) (dC : Nat → ClassId) (dI : Nat → Nat → Nat) (cI cZ cS : ClassId) (aM : Nat → Nat) (M : Pic) (hs : Int64) (sz : Nat) (p1 : Int32) (res : Int32 × Pic) (hR : f7_count M p1 = some res) : Met l yX7_count wsX7_count rm_X7_count (va_Pc [.ref (aM 0), .int p1] (pW (dC, dI) (tyS cI cZ cS) (wMo cI aM M hs) sz)) (q_X7_count dC dI cI cZ cS aM hs res (va_A (wMo cI aM M hs) sz)) 0 0 (va_A (wMo cI aM M hs) sz) := by
  refine Met.ofW (cc := cX7_count) (maxL := 2) (ret := (some .int)) (by decide) rfl ?_
  intro p e s m args below meth c s₁ B hml hv
  obtain ⟨rfl, hsz, hP, hK, hD0, hN⟩ := hv
  have hx := B.exec
  have hb := B.bytes
  have hr := B.returns
  have hts := atoms_spec (ws := wsX7_count) B.pre
  have hown : s.vm.findClass RX7 = some m.cls := findClass_of_methodNamed B.named
  have hlocks := B.notSynchronized
  subst hsz
  have hD := hD0.self (sz := s.heap.size)
  generalize hAe : va_A (wMo cI aM M hs) s.heap.size = A at hD ⊢
  have hA : ∀ q : Nat, s.heap.size ≤ q → A q := fun q h => by rw [← hAe]; exact Or.inr h
  have hS : va_S A s.heap s.heap [] := va_S.rf
  have hP : va_P (dC, dI) vwCl (wMo cI aM M hs) s.heap := hP
  rw [f7_count] at hR
  have hin7 : ∀ w ∈ wsX70, w ∈ wsX7_count := by decide +kernel
  have hl := lv_entry ([.ref (aM 0), .int p1]) (n := 2) (Nat.le_of_ble_eq_true rfl)
  rw [lg_entry_eq]
  generalize (lg_sl ([.ref (aM 0), .int p1]) ++ List.replicate (2 - (lg_sl ([.ref (aM 0), .int p1])).length) Slot.unset).toArray = ls at hl ⊢
  have hl : lv_has ls 2 [(0, .ref (aM 0)), (1, .int p1)] := hl
  refine lv_aload_n hx hb dX7_count_0 rfl (lv_at hl 0 rfl) ?_
  refine lv_iload_n hx hb dX7_count_1 rfl (lv_at hl 1 rfl) ?_
  refine lv_iconst (v := (0 : Int32)) hx hb dX7_count_2 (by decide) ?_
  refine lv_bipush (v := (13 : Int32)) hx hb dX7_count_3 (by decide) ?_
  refine va_calli (va_runS (As := [.int p1, .int (0 : Int32), .int (13 : Int32)]) (rest := [.ref (aM 0)]) ⟨hx, hb, hml, hown, hts⟩ (met_X7_within l dC dI cI cZ cS s.heap.size p1 (0 : Int32) (13 : Int32)) (va_cwS 3 hts gX7_count_X7_within rfl rfl rfl (by decide +kernel) ⟨Nat.le_of_ble_eq_true rfl, Nat.le_of_ble_eq_true rfl⟩) (pS (wc := []) hK hP hD hN [] rfl (by decide)) rfl rfl hl.1 rfl (lv_room (Nat.le_of_ble_eq_true rfl)) dX7_count_5 ⟨Nat.zero_le _, Nat.zero_le _⟩) hS (fun q _ h => a0_in hS hA q h) (a0_in hS hA) (fun r1 u t H1 locs ht hvm hw hB hz1 hk1 hS => ?_)
  obtain ⟨hw, nb2⟩ := hw
  subst hw
  have hP := rdk hP hk1
  refine lv_if_eq (tgt := 15) hx hb dX7_count_8 (by decide) (fun c_3 => ?_) (fun c_3 => ?_)
  · rw [if_pos c_3] at hR
    refine lv_iconst (v := (1 : Int32)) hx hb dX7_count_15 (by decide) ?_
    refine va_put (D := (dC, dI)) (ci := 7) (v := .int (1 : Int32)) (ty := .int) (C := RX7) (T := TX7) (N := 15) hx hb hts hin7 tyX7 tyX7_ok nmX7 hown hK hP hD hS 0 rfl rfl 7 (by decide) (hw_ hts 1 rfl) (fun _ h9 => h9) rfl (by decide +kernel) rfl rfl (Nat.le_of_ble_eq_true rfl) dX7_count_16 (fun H2 locs hP hD hS => ?_)
    have hP : va_P (dC, dI) vwCl (wMo cI aM (pset M 7 (fun _ => (1 : Int32))) hs) H2 := hP
    have hD : va_D A (wMo cI aM (pset M 7 (fun _ => (1 : Int32))) hs) := hD
    refine lv_aload_n hx hb dX7_count_19 rfl (lv_at hl 0 rfl) ?_
    refine va_get (D := (dC, dI)) (ci := 7) (v := .int (1 : Int32)) (C := RX7) (T := TX7) (N := 15) hx hb hts hin7 hown hK hP 0 rfl rfl 7 (by decide) (hw_ hts 1 rfl) (fun _ h9 => h9) rfl dX7_count_20 ?_
    refine lv_if_le (tgt := 30) hx hb dX7_count_23 (by decide) (fun q => absurd q (by decide)) (fun _ => ?_)
    refine lv_iconst (v := (0 : Int32)) hx hb dX7_count_26 (by decide) ?_
    refine lv_goto (tgt := 35) hx hb dX7_count_27 (by decide) ?_
    exact W.iret (v := (0 : Int32)) hx hb hr (fun t ht hW => ⟨⟨(0 : Int32), (pset M 7 (fun _ => (1 : Int32))), rfl, Option.some.inj hR, P_at ht hP⟩, hS.F ht⟩) hS.2.2 dX7_count_35
  · rw [if_neg c_3] at hR
    refine lv_iconst (v := (0 : Int32)) hx hb dX7_count_11 (by decide) ?_
    refine lv_goto (tgt := 16) hx hb dX7_count_12 (by decide) ?_
    refine va_put (D := (dC, dI)) (ci := 7) (v := .int (0 : Int32)) (ty := .int) (C := RX7) (T := TX7) (N := 15) hx hb hts hin7 tyX7 tyX7_ok nmX7 hown hK hP hD hS 0 rfl rfl 7 (by decide) (hw_ hts 1 rfl) (fun _ h9 => h9) rfl (by decide +kernel) rfl rfl (Nat.le_of_ble_eq_true rfl) dX7_count_16 (fun H2 locs hP hD hS => ?_)
    have hP : va_P (dC, dI) vwCl (wMo cI aM (pset M 7 (fun _ => (0 : Int32))) hs) H2 := hP
    have hD : va_D A (wMo cI aM (pset M 7 (fun _ => (0 : Int32))) hs) := hD
    refine lv_aload_n hx hb dX7_count_19 rfl (lv_at hl 0 rfl) ?_
    refine va_get (D := (dC, dI)) (ci := 7) (v := .int (0 : Int32)) (C := RX7) (T := TX7) (N := 15) hx hb hts hin7 hown hK hP 0 rfl rfl 7 (by decide) (hw_ hts 1 rfl) (fun _ h9 => h9) rfl dX7_count_20 ?_
    refine lv_if_le (tgt := 30) hx hb dX7_count_23 (by decide) (fun _ => ?_) (fun q => absurd (by decide) q)
    refine lv_aload_n hx hb dX7_count_30 rfl (lv_at hl 0 rfl) ?_
    refine lv_iload_n hx hb dX7_count_31 rfl (lv_at hl 1 rfl) ?_
    obtain ⟨r4, u5, hc6, hR⟩ := ob2_e hR
    have hF := va_free (wc := wMo cI aM (pset M 7 (fun _ => (0 : Int32))) hs) hD hS hA [0, 1, 2, 3, 4, 5, 6, 7, 8] rfl
    refine va_calli (va_runV (As := [.int p1]) (rest := []) ⟨hx, hb, hml, hown, hts⟩ (met_X7_counted l dC dI cI cZ cS aM (pset M 7 (fun _ => (0 : Int32))) hs H2.size p1 (r4, u5) hc6) (cwV 1 hts gX7_count_X7_counted rfl rfl rfl (by decide +kernel) ⟨Nat.le_of_ble_eq_true rfl, Nat.le_of_ble_eq_true rfl⟩) (pV (wc := wMo cI aM (pset M 7 (fun _ => (0 : Int32))) hs) (ci := 7) (q0 := 0) hK hP hD hN [0, 1, 2, 3, 4, 5, 6, 7, 8] rfl (by decide) rfl rfl) rfl rfl hl.1 rfl (lv_room (Nat.le_of_ble_eq_true rfl)) dX7_count_32 ⟨Nat.zero_le _, Nat.zero_le _⟩) hS (fun q _ h => hF q h) hF (fun r4 u5 t H3 locs ht hvm hw hB hz1 hk1 hS => ?_)
    try dsimp only at hw hB
    rw [ht] at hB
    cases hw
    have hP := wrk (w2 := wMo cI aM u5 hs) hP hD [0, 1, 2, 3, 4, 5, 6, 7, 8] rfl (by decide) hk1 hB rfl rfl
    have hD := D_addr (w1 := wMo cI aM u5 hs) hD rfl
    exact W.iret (v := r4) hx hb hr (fun t ht hW => ⟨⟨r4, u5, rfl, Option.some.inj hR, P_at ht hP⟩, hS.F ht⟩) hS.2.2 dX7_count_35
abbrev rm_X7_setting : Room := { frames := 2, cells := 0, slots := 0, locals := 42 }
abbrev q_X7_setting (dC : Nat → ClassId) (dI : Nat → Nat → Nat) (cI cZ cS : ClassId) (aM : Nat → Nat) (hs : Int64) (res : Int32 × Pic) (A : Nat → Prop) : Array Value → State → Outcome → State → Prop := va_Qi (fun (r : Int32) (u : Pic) => (r, u) = res) (fun u t => va_P (dC, dI) vwCl (wMo cI aM u hs) t.heap) A
set_option maxHeartbeats 4000000 in
set_option maxRecDepth 100000 in
theorem met_X7_setting (l : Launch) (dC : Nat → ClassId) (dI : Nat → Nat → Nat) (cI cZ cS : ClassId) (aM : Nat → Nat) (M : Pic) (hs : Int64) (sz : Nat) (p1 : Int32) (res : Int32 × Pic) (hR : f7_setting M p1 = some res) : Met l yX7_setting wsX7_setting rm_X7_setting (va_Pc [.ref (aM 0), .int p1] (pW (dC, dI) (tyS cI cZ cS) (wMo cI aM M hs) sz)) (q_X7_setting dC dI cI cZ cS aM hs res (va_A (wMo cI aM M hs) sz)) 0 0 (va_A (wMo cI aM M hs) sz) := by
  refine Met.ofW (cc := cX7_setting) (maxL := 2) (ret := (some .int)) (by decide) rfl ?_
  intro p e s m args below meth c s₁ B hml hv
  obtain ⟨rfl, hsz, hP, hK, hD0, hN⟩ := hv
  have hx := B.exec
  have hb := B.bytes
  have hr := B.returns
  have hts := atoms_spec (ws := wsX7_setting) B.pre
  have hown : s.vm.findClass RX7 = some m.cls := findClass_of_methodNamed B.named
  have hlocks := B.notSynchronized
  subst hsz
  have hD := hD0.self (sz := s.heap.size)
  generalize hAe : va_A (wMo cI aM M hs) s.heap.size = A at hD ⊢
  have hA : ∀ q : Nat, s.heap.size ≤ q → A q := fun q h => by rw [← hAe]; exact Or.inr h
  have hS : va_S A s.heap s.heap [] := va_S.rf
  have hP : va_P (dC, dI) vwCl (wMo cI aM M hs) s.heap := hP
  rw [f7_setting] at hR
  have hin7 : ∀ w ∈ wsX70, w ∈ wsX7_setting := by decide +kernel
  have hl := lv_entry ([.ref (aM 0), .int p1]) (n := 2) (Nat.le_of_ble_eq_true rfl)
  rw [lg_entry_eq]
  generalize (lg_sl ([.ref (aM 0), .int p1]) ++ List.replicate (2 - (lg_sl ([.ref (aM 0), .int p1])).length) Slot.unset).toArray = ls at hl ⊢
  have hl : lv_has ls 2 [(0, .ref (aM 0)), (1, .int p1)] := hl
  refine lv_aload_n hx hb dX7_setting_0 rfl (lv_at hl 0 rfl) ?_
  refine lv_iload_n hx hb dX7_setting_1 rfl (lv_at hl 1 rfl) ?_
  refine va_calli (va_runS (As := [.int p1]) (rest := [.ref (aM 0)]) ⟨hx, hb, hml, hown, hts⟩ (met_X7_isSetting l dC dI cI cZ cS s.heap.size p1) (va_cwS 1 hts gX7_setting_X7_isSetting rfl rfl rfl (by decide +kernel) ⟨Nat.le_of_ble_eq_true rfl, Nat.le_of_ble_eq_true rfl⟩) (pS (wc := []) hK hP hD hN [] rfl (by decide)) rfl rfl hl.1 rfl (lv_room (Nat.le_of_ble_eq_true rfl)) dX7_setting_2 ⟨Nat.zero_le _, Nat.zero_le _⟩) hS (fun q _ h => a0_in hS hA q h) (a0_in hS hA) (fun r1 u t H1 locs ht hvm hw hB hz1 hk1 hS => ?_)
  obtain ⟨hw, nb2⟩ := hw
  subst hw
  have hP := rdk hP hk1
  refine lv_if_eq (tgt := 12) hx hb dX7_setting_5 (by decide) (fun c_3 => ?_) (fun c_3 => ?_)
  · rw [if_pos c_3] at hR
    refine lv_iconst (v := (1 : Int32)) hx hb dX7_setting_12 (by decide) ?_
    refine va_put (D := (dC, dI)) (ci := 7) (v := .int (1 : Int32)) (ty := .int) (C := RX7) (T := TX7) (N := 15) hx hb hts hin7 tyX7 tyX7_ok nmX7 hown hK hP hD hS 0 rfl rfl 7 (by decide) (hw_ hts 1 rfl) (fun _ h9 => h9) rfl (by decide +kernel) rfl rfl (Nat.le_of_ble_eq_true rfl) dX7_setting_13 (fun H2 locs hP hD hS => ?_)
    have hP : va_P (dC, dI) vwCl (wMo cI aM (pset M 7 (fun _ => (1 : Int32))) hs) H2 := hP
    have hD : va_D A (wMo cI aM (pset M 7 (fun _ => (1 : Int32))) hs) := hD
    refine lv_aload_n hx hb dX7_setting_16 rfl (lv_at hl 0 rfl) ?_
    refine va_get (D := (dC, dI)) (ci := 7) (v := .int (1 : Int32)) (C := RX7) (T := TX7) (N := 15) hx hb hts hin7 hown hK hP 0 rfl rfl 7 (by decide) (hw_ hts 1 rfl) (fun _ h9 => h9) rfl dX7_setting_17 ?_
    refine lv_if_le (tgt := 27) hx hb dX7_setting_20 (by decide) (fun q => absurd q (by decide)) (fun _ => ?_)
    refine lv_iconst (v := (0 : Int32)) hx hb dX7_setting_23 (by decide) ?_
    refine lv_goto (tgt := 33) hx hb dX7_setting_24 (by decide) ?_
    exact W.iret (v := (0 : Int32)) hx hb hr (fun t ht hW => ⟨⟨(0 : Int32), (pset M 7 (fun _ => (1 : Int32))), rfl, Option.some.inj hR, P_at ht hP⟩, hS.F ht⟩) hS.2.2 dX7_setting_33
  · rw [if_neg c_3] at hR
    refine lv_iconst (v := (0 : Int32)) hx hb dX7_setting_8 (by decide) ?_
    refine lv_goto (tgt := 13) hx hb dX7_setting_9 (by decide) ?_
    refine va_put (D := (dC, dI)) (ci := 7) (v := .int (0 : Int32)) (ty := .int) (C := RX7) (T := TX7) (N := 15) hx hb hts hin7 tyX7 tyX7_ok nmX7 hown hK hP hD hS 0 rfl rfl 7 (by decide) (hw_ hts 1 rfl) (fun _ h9 => h9) rfl (by decide +kernel) rfl rfl (Nat.le_of_ble_eq_true rfl) dX7_setting_13 (fun H2 locs hP hD hS => ?_)
    have hP : va_P (dC, dI) vwCl (wMo cI aM (pset M 7 (fun _ => (0 : Int32))) hs) H2 := hP
    have hD : va_D A (wMo cI aM (pset M 7 (fun _ => (0 : Int32))) hs) := hD
    refine lv_aload_n hx hb dX7_setting_16 rfl (lv_at hl 0 rfl) ?_
    refine va_get (D := (dC, dI)) (ci := 7) (v := .int (0 : Int32)) (C := RX7) (T := TX7) (N := 15) hx hb hts hin7 hown hK hP 0 rfl rfl 7 (by decide) (hw_ hts 1 rfl) (fun _ h9 => h9) rfl dX7_setting_17 ?_
    refine lv_if_le (tgt := 27) hx hb dX7_setting_20 (by decide) (fun _ => ?_) (fun q => absurd (by decide) q)
    refine lv_aload_n hx hb dX7_setting_27 rfl (lv_at hl 0 rfl) ?_
    refine va_get (D := (dC, dI)) (ci := 7) (v := .ref (aM 1)) (C := RX7) (T := TX7) (N := 15) hx hb hts hin7 hown hK hP 0 rfl rfl 0 (by decide) (hw_ hts 2 rfl) (fun _ h9 => h9) rfl dX7_setting_28 ?_
    refine lv_iload_n hx hb dX7_setting_31 rfl (lv_at hl 1 rfl) ?_
    obtain ⟨hix4, hR⟩ := ck_some hR
    refine va_iald (f := (M 0)) hx hb hK hP 1 0 rfl rfl hix4 dX7_setting_32 ?_
    exact W.iret (v := ((M 0) (ix p1))) hx hb hr (fun t ht hW => ⟨⟨((M 0) (ix p1)), (pset M 7 (fun _ => (0 : Int32))), rfl, Option.some.inj hR, P_at ht hP⟩, hS.F ht⟩) hS.2.2 dX7_setting_33
