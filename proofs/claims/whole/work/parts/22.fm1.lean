abbrev rm_X6_figureOfGuest : Room := { frames := 3, cells := 0, slots := 0, locals := 67 }
abbrev q_X6_figureOfGuest (dC : Nat → ClassId) (dI : Nat → Nat → Nat) (cI cZ cS : ClassId) (aF aN aT aL aO aH : Nat → Nat) (ah : Nat → Nat → Nat) (aP aX : Nat → Nat)  (res : Int32) (A : Nat → Prop) : Array Value → State → Outcome → State → Prop := va_Qi (fun (r : Int32) (u : Unit) => r = res) (fun _ _ => True) A
set_option maxHeartbeats 4000000 in
set_option maxRecDepth 100000 in
theorem met_X6_figureOfGuest (l : Launch) (dC : Nat → ClassId) (dI : Nat → Nat → Nat) (cI cZ cS : ClassId) (aF aN aT aL aO aH : Nat → Nat) (ah : Nat → Nat → Nat) (aP aX : Nat → Nat) (S : Pic) (sz : Nat) (p1 : Int32) (p2 : Int32) : Met l yX6_figureOfGuest wsX6_figureOfGuest rm_X6_figureOfGuest (va_Pc [.ref (aF 0), .int p1, .int p2] (pW (dC, dI) (tyS cI cZ cS) (wFm aF aN aT aL aO aH aP aX ++ (wSt cI aN S)) sz)) (q_X6_figureOfGuest dC dI cI cZ cS aF aN aT aL aO aH ah aP aX (f6_figureOfGuest S p1 p2) (a0 sz)) 0 0 (a0 sz) := by
  refine Met.ofW (cc := cX6_figureOfGuest) (maxL := 3) (ret := (some .int)) (by decide) rfl ?_
  intro p e s m args below meth c s₁ B hml hv
  obtain ⟨rfl, hsz, hP, hK, hD0, hN⟩ := hv
  have hx := B.exec
  have hb := B.bytes
  have hr := B.returns
  have hts := atoms_spec (ws := wsX6_figureOfGuest) B.pre
  have hown : s.vm.findClass RX6 = some m.cls := findClass_of_methodNamed B.named
  have hlocks := B.notSynchronized
  subst hsz
  have hD := hD0
  have hA : ∀ q : Nat, s.heap.size ≤ q → a0 s.heap.size q := fun q h => Or.inr h
  have hS : va_S (a0 s.heap.size) s.heap s.heap [] := va_S.rf
  have hP : va_P (dC, dI) vwCl (wFm aF aN aT aL aO aH aP aX ++ (wSt cI aN S)) s.heap := hP
  generalize hR : f6_figureOfGuest S p1 p2 = res
  rw [f6_figureOfGuest] at hR
  have hin6 : ∀ w ∈ wsX60, w ∈ wsX6_figureOfGuest := by decide +kernel
  have hin5 : ∀ w ∈ wsX50, w ∈ wsX6_figureOfGuest := by decide +kernel
  have hl := lv_entry ([.ref (aF 0), .int p1, .int p2]) (n := 3) (Nat.le_of_ble_eq_true rfl)
  rw [lg_entry_eq]
  generalize (lg_sl ([.ref (aF 0), .int p1, .int p2]) ++ List.replicate (3 - (lg_sl ([.ref (aF 0), .int p1, .int p2])).length) Slot.unset).toArray = ls at hl ⊢
  have hl : lv_has ls 3 [(0, .ref (aF 0)), (1, .int p1), (2, .int p2)] := hl
  refine lv_iload_n hx hb dX6_figureOfGuest_0 rfl (lv_at hl 2 rfl) ?_
  by_cases c_1 : p2 = 0
  · rw [if_pos c_1] at hR
    refine lv_tableIn (tgt := 28) hx hb dX6_figureOfGuest_1 (by rw [c_1]; decide) (by rw [c_1]; decide) (by rw [c_1]; rfl) (by decide) ?_
    refine lv_aload_n hx hb dX6_figureOfGuest_28 rfl (lv_at hl 0 rfl) ?_
    refine va_get (D := (dC, dI)) (ci := 6) (v := .ref (aN 0)) (C := RX6) (T := TX6) (N := 7) hx hb hts hin6 hown hK hP 0 rfl rfl 0 (by decide) (hw_ hts 1 rfl) (fun _ h9 => h9) rfl dX6_figureOfGuest_29 ?_
    refine va_get (D := (dC, dI)) (ci := 5) (v := .ref (aN 8)) (C := RX5) (T := TX5) (N := 12) hx hb hts hin5 hown hK hP 1 rfl rfl 8 (by decide) (hw_ hts 2 rfl) (fun _ h9 => h9) rfl dX6_figureOfGuest_32 ?_
    refine lv_iload_n hx hb dX6_figureOfGuest_35 rfl (lv_at hl 1 rfl) ?_
    refine va_calli (va_runS (As := [.ref (aN 8), .int p1]) (rest := []) ⟨hx, hb, hml, hown, hts⟩ (met_X6_at l dC dI cI cZ cS (aN 8) 6 (by decide) (S 8) s.heap.size p1) (va_cwS 2 hts gX6_figureOfGuest_X6_at rfl rfl rfl (by decide +kernel) ⟨Nat.le_of_ble_eq_true rfl, Nat.le_of_ble_eq_true rfl⟩) (pS (wc := [((aN 8), .inl (cI, 6, .inl (S 8)))]) hK hP hD hN [8] rfl (by decide)) rfl rfl hl.1 rfl (lv_room (Nat.le_of_ble_eq_true rfl)) dX6_figureOfGuest_36 ⟨Nat.zero_le _, Nat.zero_le _⟩) hS (fun q _ h => a0_in hS hA q h) (a0_in hS hA) (fun r2 u t H1 locs ht hvm hw hB hz1 hk1 hS => ?_)
    subst hw
    have hP := rdk hP hk1
    exact W.iret (v := (f6_at 6 (S 8) p1)) hx hb hr (fun t ht hW => ⟨⟨(f6_at 6 (S 8) p1), (), rfl, hR, trivial⟩, hS.F ht⟩) hS.2.2 dX6_figureOfGuest_39
  rw [if_neg c_1] at hR
  by_cases c_3 : p2 = 1
  · rw [if_pos c_3] at hR
    refine lv_tableIn (tgt := 40) hx hb dX6_figureOfGuest_1 (by rw [c_3]; decide) (by rw [c_3]; decide) (by rw [c_3]; rfl) (by decide) ?_
    refine lv_aload_n hx hb dX6_figureOfGuest_40 rfl (lv_at hl 0 rfl) ?_
    refine va_get (D := (dC, dI)) (ci := 6) (v := .ref (aN 0)) (C := RX6) (T := TX6) (N := 7) hx hb hts hin6 hown hK hP 0 rfl rfl 0 (by decide) (hw_ hts 1 rfl) (fun _ h9 => h9) rfl dX6_figureOfGuest_41 ?_
    refine va_get (D := (dC, dI)) (ci := 5) (v := .ref (aN 9)) (C := RX5) (T := TX5) (N := 12) hx hb hts hin5 hown hK hP 1 rfl rfl 9 (by decide) (hw_ hts 3 rfl) (fun _ h9 => h9) rfl dX6_figureOfGuest_44 ?_
    refine lv_iload_n hx hb dX6_figureOfGuest_47 rfl (lv_at hl 1 rfl) ?_
    refine va_calli (va_runS (As := [.ref (aN 9), .int p1]) (rest := []) ⟨hx, hb, hml, hown, hts⟩ (met_X6_at l dC dI cI cZ cS (aN 9) 6 (by decide) (S 9) s.heap.size p1) (va_cwS 2 hts gX6_figureOfGuest_X6_at rfl rfl rfl (by decide +kernel) ⟨Nat.le_of_ble_eq_true rfl, Nat.le_of_ble_eq_true rfl⟩) (pS (wc := [((aN 9), .inl (cI, 6, .inl (S 9)))]) hK hP hD hN [9] rfl (by decide)) rfl rfl hl.1 rfl (lv_room (Nat.le_of_ble_eq_true rfl)) dX6_figureOfGuest_48 ⟨Nat.zero_le _, Nat.zero_le _⟩) hS (fun q _ h => a0_in hS hA q h) (a0_in hS hA) (fun r4 u t H1 locs ht hvm hw hB hz1 hk1 hS => ?_)
    subst hw
    have hP := rdk hP hk1
    exact W.iret (v := (f6_at 6 (S 9) p1)) hx hb hr (fun t ht hW => ⟨⟨(f6_at 6 (S 9) p1), (), rfl, hR, trivial⟩, hS.F ht⟩) hS.2.2 dX6_figureOfGuest_51
  rw [if_neg c_3] at hR
  by_cases c_5 : p2 = 2
  · rw [if_pos c_5] at hR
    refine lv_tableIn (tgt := 52) hx hb dX6_figureOfGuest_1 (by rw [c_5]; decide) (by rw [c_5]; decide) (by rw [c_5]; rfl) (by decide) ?_
    refine lv_aload_n hx hb dX6_figureOfGuest_52 rfl (lv_at hl 0 rfl) ?_
    refine va_get (D := (dC, dI)) (ci := 6) (v := .ref (aN 0)) (C := RX6) (T := TX6) (N := 7) hx hb hts hin6 hown hK hP 0 rfl rfl 0 (by decide) (hw_ hts 1 rfl) (fun _ h9 => h9) rfl dX6_figureOfGuest_53 ?_
    refine lv_iload_n hx hb dX6_figureOfGuest_56 rfl (lv_at hl 1 rfl) ?_
    refine va_calli (va_runV (As := [.int p1]) (rest := []) ⟨hx, hb, hml, hown, hts⟩ (met_X5_dishesBefore l dC dI cI cZ cS aN S s.heap.size p1) (cwV 1 hts gX6_figureOfGuest_X5_dishesBefore rfl rfl rfl (by decide +kernel) ⟨Nat.le_of_ble_eq_true rfl, Nat.le_of_ble_eq_true rfl⟩) (pV (wc := wSt cI aN S) (ci := 5) (q0 := 1) hK hP hD hN [1, 2, 3, 4, 5, 6, 7, 8, 9, 10, 11] rfl (by decide) rfl rfl) rfl rfl hl.1 rfl (lv_room (Nat.le_of_ble_eq_true rfl)) dX6_figureOfGuest_57 ⟨Nat.zero_le _, Nat.zero_le _⟩) hS (fun q _ h => a0_in hS hA q h) (a0_in hS hA) (fun r6 u t H1 locs ht hvm hw hB hz1 hk1 hS => ?_)
    have hR := bd_n hw hR
    have hP := rdk hP hk1
    exact W.iret (v := r6) hx hb hr (fun t ht hW => ⟨⟨r6, (), rfl, hR, trivial⟩, hS.F ht⟩) hS.2.2 dX6_figureOfGuest_60
  rw [if_neg c_5] at hR
  refine lv_tableOut (tgt := 61) hx hb dX6_figureOfGuest_1 (sw_out [0, 1, 2] (fun z h1 h2 => by simp; omega) (List.forall_mem_cons.mpr ⟨lv_neT (a := 0) c_1 rfl, List.forall_mem_cons.mpr ⟨lv_neT (a := 1) c_3 rfl, List.forall_mem_cons.mpr ⟨lv_neT (a := 2) c_5 rfl, fun _ h => absurd h List.not_mem_nil⟩⟩⟩)) (by decide) ?_
  refine lv_iconst (v := (-1 : Int32)) hx hb dX6_figureOfGuest_61 (by decide) ?_
  exact W.iret (v := (-1 : Int32)) hx hb hr (fun t ht hW => ⟨⟨(-1 : Int32), (), rfl, hR, trivial⟩, hS.F ht⟩) hS.2.2 dX6_figureOfGuest_62
abbrev rm_X6_figureOfDay : Room := { frames := 4, cells := 0, slots := 0, locals := 95 }
abbrev q_X6_figureOfDay (dC : Nat → ClassId) (dI : Nat → Nat → Nat) (cI cZ cS : ClassId) (aF aN aT aL aO aH : Nat → Nat) (ah : Nat → Nat → Nat) (aP aX : Nat → Nat)  (res : Int32) (A : Nat → Prop) : Array Value → State → Outcome → State → Prop := va_Qi (fun (r : Int32) (u : Unit) => r = res) (fun _ _ => True) A
set_option maxHeartbeats 4000000 in
set_option maxRecDepth 100000 in
theorem met_X6_figureOfDay (l : Launch) (dC : Nat → ClassId) (dI : Nat → Nat → Nat) (cI cZ cS : ClassId) (aF aN aT aL aO aH : Nat → Nat) (ah : Nat → Nat → Nat) (aP aX : Nat → Nat) (S : Pic) (Y : Pic) (sz : Nat) (p1 : Int32) (p2 : Int32) : Met l yX6_figureOfDay wsX6_figureOfDay rm_X6_figureOfDay (va_Pc [.ref (aF 0), .int p1, .int p2] (pW (dC, dI) (tyS cI cZ cS) (wFm aF aN aT aL aO aH aP aX ++ (wSt cI aN S ++ (wLo cI aL Y ++ (wOu aO aN aL)))) sz)) (q_X6_figureOfDay dC dI cI cZ cS aF aN aT aL aO aH ah aP aX (f6_figureOfDay S p1 p2) (a0 sz)) 0 0 (a0 sz) := by
  refine Met.ofW (cc := cX6_figureOfDay) (maxL := 3) (ret := (some .int)) (by decide) rfl ?_
  intro p e s m args below meth c s₁ B hml hv
  obtain ⟨rfl, hsz, hP, hK, hD0, hN⟩ := hv
  have hx := B.exec
  have hb := B.bytes
  have hr := B.returns
  have hts := atoms_spec (ws := wsX6_figureOfDay) B.pre
  have hown : s.vm.findClass RX6 = some m.cls := findClass_of_methodNamed B.named
  have hlocks := B.notSynchronized
  subst hsz
  have hD := hD0
  have hA : ∀ q : Nat, s.heap.size ≤ q → a0 s.heap.size q := fun q h => Or.inr h
  have hS : va_S (a0 s.heap.size) s.heap s.heap [] := va_S.rf
  have hP : va_P (dC, dI) vwCl (wFm aF aN aT aL aO aH aP aX ++ (wSt cI aN S ++ (wLo cI aL Y ++ (wOu aO aN aL)))) s.heap := hP
  generalize hR : f6_figureOfDay S p1 p2 = res
  rw [f6_figureOfDay] at hR
  have hin6 : ∀ w ∈ wsX60, w ∈ wsX6_figureOfDay := by decide +kernel
  have hl := lv_entry ([.ref (aF 0), .int p1, .int p2]) (n := 3) (Nat.le_of_ble_eq_true rfl)
  rw [lg_entry_eq]
  generalize (lg_sl ([.ref (aF 0), .int p1, .int p2]) ++ List.replicate (3 - (lg_sl ([.ref (aF 0), .int p1, .int p2])).length) Slot.unset).toArray = ls at hl ⊢
  have hl : lv_has ls 3 [(0, .ref (aF 0)), (1, .int p1), (2, .int p2)] := hl
  refine lv_iload_n hx hb dX6_figureOfDay_0 rfl (lv_at hl 2 rfl) ?_
  by_cases c_1 : p2 = 0
  · rw [if_pos c_1] at hR
    refine lv_tableIn (tgt := 36) hx hb dX6_figureOfDay_1 (by rw [c_1]; decide) (by rw [c_1]; decide) (by rw [c_1]; rfl) (by decide) ?_
    refine lv_aload_n hx hb dX6_figureOfDay_36 rfl (lv_at hl 0 rfl) ?_
    refine va_get (D := (dC, dI)) (ci := 6) (v := .ref (aN 0)) (C := RX6) (T := TX6) (N := 7) hx hb hts hin6 hown hK hP 0 rfl rfl 0 (by decide) (hw_ hts 1 rfl) (fun _ h9 => h9) rfl dX6_figureOfDay_37 ?_
    refine lv_iload_n hx hb dX6_figureOfDay_40 rfl (lv_at hl 1 rfl) ?_
    refine va_calli (va_runV (As := [.int p1]) (rest := []) ⟨hx, hb, hml, hown, hts⟩ (met_X5_mealCount l dC dI cI cZ cS aN S s.heap.size p1) (cwV 1 hts gX6_figureOfDay_X5_mealCount rfl rfl rfl (by decide +kernel) ⟨Nat.le_of_ble_eq_true rfl, Nat.le_of_ble_eq_true rfl⟩) (pV (wc := wSt cI aN S) (ci := 5) (q0 := 1) hK hP hD hN [1, 2, 3, 4, 5, 6, 7, 8, 9, 10, 11] rfl (by decide) rfl rfl) rfl rfl hl.1 rfl (lv_room (Nat.le_of_ble_eq_true rfl)) dX6_figureOfDay_41 ⟨Nat.zero_le _, Nat.zero_le _⟩) hS (fun q _ h => a0_in hS hA q h) (a0_in hS hA) (fun r2 u t H1 locs ht hvm hw hB hz1 hk1 hS => ?_)
    have hR := bd_n hw hR
    have hP := rdk hP hk1
    exact W.iret (v := r2) hx hb hr (fun t ht hW => ⟨⟨r2, (), rfl, hR, trivial⟩, hS.F ht⟩) hS.2.2 dX6_figureOfDay_44
  rw [if_neg c_1] at hR
  by_cases c_3 : p2 = 1
  · rw [if_pos c_3] at hR
    refine lv_tableIn (tgt := 45) hx hb dX6_figureOfDay_1 (by rw [c_3]; decide) (by rw [c_3]; decide) (by rw [c_3]; rfl) (by decide) ?_
    refine lv_aload_n hx hb dX6_figureOfDay_45 rfl (lv_at hl 0 rfl) ?_
    refine va_get (D := (dC, dI)) (ci := 6) (v := .ref (aN 0)) (C := RX6) (T := TX6) (N := 7) hx hb hts hin6 hown hK hP 0 rfl rfl 0 (by decide) (hw_ hts 1 rfl) (fun _ h9 => h9) rfl dX6_figureOfDay_46 ?_
    refine lv_iload_n hx hb dX6_figureOfDay_49 rfl (lv_at hl 1 rfl) ?_
    refine va_calli (va_runV (As := [.int p1]) (rest := []) ⟨hx, hb, hml, hown, hts⟩ (met_X5_mealCost l dC dI cI cZ cS aN S s.heap.size p1) (cwV 1 hts gX6_figureOfDay_X5_mealCost rfl rfl rfl (by decide +kernel) ⟨Nat.le_of_ble_eq_true rfl, Nat.le_of_ble_eq_true rfl⟩) (pV (wc := wSt cI aN S) (ci := 5) (q0 := 1) hK hP hD hN [1, 2, 3, 4, 5, 6, 7, 8, 9, 10, 11] rfl (by decide) rfl rfl) rfl rfl hl.1 rfl (lv_room (Nat.le_of_ble_eq_true rfl)) dX6_figureOfDay_50 ⟨Nat.zero_le _, Nat.zero_le _⟩) hS (fun q _ h => a0_in hS hA q h) (a0_in hS hA) (fun r4 u t H1 locs ht hvm hw hB hz1 hk1 hS => ?_)
    have hR := bd_n hw hR
    have hP := rdk hP hk1
    exact W.iret (v := r4) hx hb hr (fun t ht hW => ⟨⟨r4, (), rfl, hR, trivial⟩, hS.F ht⟩) hS.2.2 dX6_figureOfDay_53
  rw [if_neg c_3] at hR
  by_cases c_5 : p2 = 2
  · rw [if_pos c_5] at hR
    refine lv_tableIn (tgt := 54) hx hb dX6_figureOfDay_1 (by rw [c_5]; decide) (by rw [c_5]; decide) (by rw [c_5]; rfl) (by decide) ?_
    refine lv_aload_n hx hb dX6_figureOfDay_54 rfl (lv_at hl 0 rfl) ?_
    refine va_get (D := (dC, dI)) (ci := 6) (v := .ref (aO 0)) (C := RX6) (T := TX6) (N := 7) hx hb hts hin6 hown hK hP 0 rfl rfl 3 (by decide) (hw_ hts 2 rfl) (fun _ h9 => h9) rfl dX6_figureOfDay_55 ?_
    refine lv_iload_n hx hb dX6_figureOfDay_58 rfl (lv_at hl 1 rfl) ?_
    refine va_calli (va_runV (As := [.int p1]) (rest := []) ⟨hx, hb, hml, hown, hts⟩ (met_X2_joyOfMeal l dC dI cI cZ cS aO aL aN Y S s.heap.size p1) (cwV 1 hts gX6_figureOfDay_X2_joyOfMeal rfl rfl rfl (by decide +kernel) ⟨Nat.le_of_ble_eq_true rfl, Nat.le_of_ble_eq_true rfl⟩) (pV (wc := wOu aO aN aL ++ (wLo cI aL Y ++ (wSt cI aN S))) (ci := 2) (q0 := 15) hK hP hD hN [15, 12, 13, 14, 1, 2, 3, 4, 5, 6, 7, 8, 9, 10, 11] rfl (by decide) rfl rfl) rfl rfl hl.1 rfl (lv_room (Nat.le_of_ble_eq_true rfl)) dX6_figureOfDay_59 ⟨Nat.zero_le _, Nat.zero_le _⟩) hS (fun q _ h => a0_in hS hA q h) (a0_in hS hA) (fun r6 u t H1 locs ht hvm hw hB hz1 hk1 hS => ?_)
    have hR := bd_n hw hR
    have hP := rdk hP hk1
    exact W.iret (v := r6) hx hb hr (fun t ht hW => ⟨⟨r6, (), rfl, hR, trivial⟩, hS.F ht⟩) hS.2.2 dX6_figureOfDay_62
  rw [if_neg c_5] at hR
  by_cases c_7 : p2 = 3
  · rw [if_pos c_7] at hR
    refine lv_tableIn (tgt := 63) hx hb dX6_figureOfDay_1 (by rw [c_7]; decide) (by rw [c_7]; decide) (by rw [c_7]; rfl) (by decide) ?_
    refine lv_aload_n hx hb dX6_figureOfDay_63 rfl (lv_at hl 0 rfl) ?_
    refine va_get (D := (dC, dI)) (ci := 6) (v := .ref (aN 0)) (C := RX6) (T := TX6) (N := 7) hx hb hts hin6 hown hK hP 0 rfl rfl 0 (by decide) (hw_ hts 1 rfl) (fun _ h9 => h9) rfl dX6_figureOfDay_64 ?_
    refine lv_iload_n hx hb dX6_figureOfDay_67 rfl (lv_at hl 1 rfl) ?_
    refine va_calli (va_runV (As := [.int p1]) (rest := []) ⟨hx, hb, hml, hown, hts⟩ (met_X5_vetoedTastes l dC dI cI cZ cS aN S s.heap.size p1) (cwV 1 hts gX6_figureOfDay_X5_vetoedTastes rfl rfl rfl (by decide +kernel) ⟨Nat.le_of_ble_eq_true rfl, Nat.le_of_ble_eq_true rfl⟩) (pV (wc := wSt cI aN S) (ci := 5) (q0 := 1) hK hP hD hN [1, 2, 3, 4, 5, 6, 7, 8, 9, 10, 11] rfl (by decide) rfl rfl) rfl rfl hl.1 rfl (lv_room (Nat.le_of_ble_eq_true rfl)) dX6_figureOfDay_68 ⟨Nat.zero_le _, Nat.zero_le _⟩) hS (fun q _ h => a0_in hS hA q h) (a0_in hS hA) (fun r8 u t H1 locs ht hvm hw hB hz1 hk1 hS => ?_)
    have hR := bd_n hw hR
    have hP := rdk hP hk1
    exact W.iret (v := r8) hx hb hr (fun t ht hW => ⟨⟨r8, (), rfl, hR, trivial⟩, hS.F ht⟩) hS.2.2 dX6_figureOfDay_71
  rw [if_neg c_7] at hR
  by_cases c_9 : p2 = 4
  · rw [if_pos c_9] at hR
    refine lv_tableIn (tgt := 72) hx hb dX6_figureOfDay_1 (by rw [c_9]; decide) (by rw [c_9]; decide) (by rw [c_9]; rfl) (by decide) ?_
    refine lv_aload_n hx hb dX6_figureOfDay_72 rfl (lv_at hl 0 rfl) ?_
    refine va_get (D := (dC, dI)) (ci := 6) (v := .ref (aN 0)) (C := RX6) (T := TX6) (N := 7) hx hb hts hin6 hown hK hP 0 rfl rfl 0 (by decide) (hw_ hts 1 rfl) (fun _ h9 => h9) rfl dX6_figureOfDay_73 ?_
    refine lv_iload_n hx hb dX6_figureOfDay_76 rfl (lv_at hl 1 rfl) ?_
    refine va_calli (va_runV (As := [.int p1]) (rest := []) ⟨hx, hb, hml, hown, hts⟩ (met_X5_guestsOn l dC dI cI cZ cS aN S s.heap.size p1) (cwV 1 hts gX6_figureOfDay_X5_guestsOn rfl rfl rfl (by decide +kernel) ⟨Nat.le_of_ble_eq_true rfl, Nat.le_of_ble_eq_true rfl⟩) (pV (wc := wSt cI aN S) (ci := 5) (q0 := 1) hK hP hD hN [1, 2, 3, 4, 5, 6, 7, 8, 9, 10, 11] rfl (by decide) rfl rfl) rfl rfl hl.1 rfl (lv_room (Nat.le_of_ble_eq_true rfl)) dX6_figureOfDay_77 ⟨Nat.zero_le _, Nat.zero_le _⟩) hS (fun q _ h => a0_in hS hA q h) (a0_in hS hA) (fun r10 u t H1 locs ht hvm hw hB hz1 hk1 hS => ?_)
    have hR := bd_n hw hR
    have hP := rdk hP hk1
    exact W.iret (v := r10) hx hb hr (fun t ht hW => ⟨⟨r10, (), rfl, hR, trivial⟩, hS.F ht⟩) hS.2.2 dX6_figureOfDay_80
  rw [if_neg c_9] at hR
  refine lv_tableOut (tgt := 81) hx hb dX6_figureOfDay_1 (sw_out [0, 1, 2, 3, 4] (fun z h1 h2 => by simp; omega) (List.forall_mem_cons.mpr ⟨lv_neT (a := 0) c_1 rfl, List.forall_mem_cons.mpr ⟨lv_neT (a := 1) c_3 rfl, List.forall_mem_cons.mpr ⟨lv_neT (a := 2) c_5 rfl, List.forall_mem_cons.mpr ⟨lv_neT (a := 3) c_7 rfl, List.forall_mem_cons.mpr ⟨lv_neT (a := 4) c_9 rfl, fun _ h => absurd h List.not_mem_nil⟩⟩⟩⟩⟩)) (by decide) ?_
  refine lv_iconst (v := (-1 : Int32)) hx hb dX6_figureOfDay_81 (by decide) ?_
  exact W.iret (v := (-1 : Int32)) hx hb hr (fun t ht hW => ⟨⟨(-1 : Int32), (), rfl, hR, trivial⟩, hS.F ht⟩) hS.2.2 dX6_figureOfDay_82
abbrev rm_X6_figureOfDish : Room := { frames := 5, cells := 0, slots := 0, locals := 123 }
abbrev q_X6_figureOfDish (dC : Nat → ClassId) (dI : Nat → Nat → Nat) (cI cZ cS : ClassId) (aF aN aT aL aO aH : Nat → Nat) (ah : Nat → Nat → Nat) (aP aX : Nat → Nat) (S : Pic) (res : Int32 × Pic) (A : Nat → Prop) : Array Value → State → Outcome → State → Prop := va_Qi (fun (r : Int32) (u : Pic) => (r, u) = res) (fun u t => va_P (dC, dI) vwCl (wFm aF aN aT aL aO aH aP aX ++ (wSt cI aN S ++ (wLo cI aL u))) t.heap) A
set_option maxHeartbeats 4000000 in
set_option maxRecDepth 100000 in
theorem met_X6_figureOfDish (l : Launch) (dC : Nat → ClassId) (dI : Nat → Nat → Nat) (cI cZ cS : ClassId) (aF aN aT aL aO aH : Nat → Nat) (ah : Nat → Nat → Nat) (aP aX : Nat → Nat) (S : Pic) (Y : Pic) (sz : Nat) (p1 : Int32) (p2 : Int32) : Met l yX6_figureOfDish wsX6_figureOfDish rm_X6_figureOfDish (va_Pc [.ref (aF 0), .int p1, .int p2] (pW (dC, dI) (tyS cI cZ cS) (wFm aF aN aT aL aO aH aP aX ++ (wSt cI aN S ++ (wLo cI aL Y))) sz)) (q_X6_figureOfDish dC dI cI cZ cS aF aN aT aL aO aH ah aP aX S (f6_figureOfDish S Y p1 p2) (va_A (wFm aF aN aT aL aO aH aP aX ++ (wSt cI aN S ++ (wLo cI aL Y))) sz)) 0 0 (va_A (wFm aF aN aT aL aO aH aP aX ++ (wSt cI aN S ++ (wLo cI aL Y))) sz) := by
  refine Met.ofW (cc := cX6_figureOfDish) (maxL := 3) (ret := (some .int)) (by decide) rfl ?_
  intro p e s m args below meth c s₁ B hml hv
  obtain ⟨rfl, hsz, hP, hK, hD0, hN⟩ := hv
  have hx := B.exec
  have hb := B.bytes
  have hr := B.returns
  have hts := atoms_spec (ws := wsX6_figureOfDish) B.pre
  have hown : s.vm.findClass RX6 = some m.cls := findClass_of_methodNamed B.named
  have hlocks := B.notSynchronized
  subst hsz
  have hD := hD0.self (sz := s.heap.size)
  generalize hAe : va_A (wFm aF aN aT aL aO aH aP aX ++ (wSt cI aN S ++ (wLo cI aL Y))) s.heap.size = A at hD ⊢
  have hA : ∀ q : Nat, s.heap.size ≤ q → A q := fun q h => by rw [← hAe]; exact Or.inr h
  have hS : va_S A s.heap s.heap [] := va_S.rf
  have hP : va_P (dC, dI) vwCl (wFm aF aN aT aL aO aH aP aX ++ (wSt cI aN S ++ (wLo cI aL Y))) s.heap := hP
  generalize hR : f6_figureOfDish S Y p1 p2 = res
  rw [f6_figureOfDish] at hR
  have hin6 : ∀ w ∈ wsX60, w ∈ wsX6_figureOfDish := by decide +kernel
  have hin5 : ∀ w ∈ wsX50, w ∈ wsX6_figureOfDish := by decide +kernel
  have hl := lv_entry ([.ref (aF 0), .int p1, .int p2]) (n := 3) (Nat.le_of_ble_eq_true rfl)
  rw [lg_entry_eq]
  generalize (lg_sl ([.ref (aF 0), .int p1, .int p2]) ++ List.replicate (3 - (lg_sl ([.ref (aF 0), .int p1, .int p2])).length) Slot.unset).toArray = ls at hl ⊢
  have hl : lv_has ls 3 [(0, .ref (aF 0)), (1, .int p1), (2, .int p2)] := hl
  refine lv_iload_n hx hb dX6_figureOfDish_0 rfl (lv_at hl 2 rfl) ?_
  by_cases c_1 : p2 = 0
  · rw [if_pos c_1] at hR
    refine lv_tableIn (tgt := 52) hx hb dX6_figureOfDish_1 (by rw [c_1]; decide) (by rw [c_1]; decide) (by rw [c_1]; rfl) (by decide) ?_
    refine lv_aload_n hx hb dX6_figureOfDish_52 rfl (lv_at hl 0 rfl) ?_
    refine va_get (D := (dC, dI)) (ci := 6) (v := .ref (aN 0)) (C := RX6) (T := TX6) (N := 7) hx hb hts hin6 hown hK hP 0 rfl rfl 0 (by decide) (hw_ hts 1 rfl) (fun _ h9 => h9) rfl dX6_figureOfDish_53 ?_
    refine va_get (D := (dC, dI)) (ci := 5) (v := .ref (aN 1)) (C := RX5) (T := TX5) (N := 12) hx hb hts hin5 hown hK hP 1 rfl rfl 1 (by decide) (hw_ hts 2 rfl) (fun _ h9 => h9) rfl dX6_figureOfDish_56 ?_
    refine lv_iload_n hx hb dX6_figureOfDish_59 rfl (lv_at hl 1 rfl) ?_
    refine va_calli (va_runS (As := [.ref (aN 1), .int p1]) (rest := []) ⟨hx, hb, hml, hown, hts⟩ (met_X6_at l dC dI cI cZ cS (aN 1) 12 (by decide) (S 1) s.heap.size p1) (va_cwS 2 hts gX6_figureOfDish_X6_at rfl rfl rfl (by decide +kernel) ⟨Nat.le_of_ble_eq_true rfl, Nat.le_of_ble_eq_true rfl⟩) (pS (wc := [((aN 1), .inl (cI, 12, .inl (S 1)))]) hK hP hD hN [2] rfl (by decide)) rfl rfl hl.1 rfl (lv_room (Nat.le_of_ble_eq_true rfl)) dX6_figureOfDish_60 ⟨Nat.zero_le _, Nat.zero_le _⟩) hS (fun q _ h => a0_in hS hA q h) (a0_in hS hA) (fun r2 u t H1 locs ht hvm hw hB hz1 hk1 hS => ?_)
    subst hw
    have hP := rdk hP hk1
    exact W.iret (v := (f6_at 12 (S 1) p1)) hx hb hr (fun t ht hW => ⟨⟨(f6_at 12 (S 1) p1), Y, rfl, hR, P_at ht hP⟩, hS.F ht⟩) hS.2.2 dX6_figureOfDish_63
  rw [if_neg c_1] at hR
  by_cases c_3 : p2 = 1
  · rw [if_pos c_3] at hR
    refine lv_tableIn (tgt := 64) hx hb dX6_figureOfDish_1 (by rw [c_3]; decide) (by rw [c_3]; decide) (by rw [c_3]; rfl) (by decide) ?_
    refine lv_aload_n hx hb dX6_figureOfDish_64 rfl (lv_at hl 0 rfl) ?_
    refine va_get (D := (dC, dI)) (ci := 6) (v := .ref (aN 0)) (C := RX6) (T := TX6) (N := 7) hx hb hts hin6 hown hK hP 0 rfl rfl 0 (by decide) (hw_ hts 1 rfl) (fun _ h9 => h9) rfl dX6_figureOfDish_65 ?_
    refine va_get (D := (dC, dI)) (ci := 5) (v := .ref (aN 2)) (C := RX5) (T := TX5) (N := 12) hx hb hts hin5 hown hK hP 1 rfl rfl 2 (by decide) (hw_ hts 3 rfl) (fun _ h9 => h9) rfl dX6_figureOfDish_68 ?_
    refine lv_iload_n hx hb dX6_figureOfDish_71 rfl (lv_at hl 1 rfl) ?_
    refine va_calli (va_runS (As := [.ref (aN 2), .int p1]) (rest := []) ⟨hx, hb, hml, hown, hts⟩ (met_X6_at l dC dI cI cZ cS (aN 2) 12 (by decide) (S 2) s.heap.size p1) (va_cwS 2 hts gX6_figureOfDish_X6_at rfl rfl rfl (by decide +kernel) ⟨Nat.le_of_ble_eq_true rfl, Nat.le_of_ble_eq_true rfl⟩) (pS (wc := [((aN 2), .inl (cI, 12, .inl (S 2)))]) hK hP hD hN [3] rfl (by decide)) rfl rfl hl.1 rfl (lv_room (Nat.le_of_ble_eq_true rfl)) dX6_figureOfDish_72 ⟨Nat.zero_le _, Nat.zero_le _⟩) hS (fun q _ h => a0_in hS hA q h) (a0_in hS hA) (fun r4 u t H1 locs ht hvm hw hB hz1 hk1 hS => ?_)
    subst hw
    have hP := rdk hP hk1
    exact W.iret (v := (f6_at 12 (S 2) p1)) hx hb hr (fun t ht hW => ⟨⟨(f6_at 12 (S 2) p1), Y, rfl, hR, P_at ht hP⟩, hS.F ht⟩) hS.2.2 dX6_figureOfDish_75
  rw [if_neg c_3] at hR
  by_cases c_5 : p2 = 2
  · rw [if_pos c_5] at hR
    refine lv_tableIn (tgt := 76) hx hb dX6_figureOfDish_1 (by rw [c_5]; decide) (by rw [c_5]; decide) (by rw [c_5]; rfl) (by decide) ?_
    refine lv_aload_n hx hb dX6_figureOfDish_76 rfl (lv_at hl 0 rfl) ?_
    refine va_get (D := (dC, dI)) (ci := 6) (v := .ref (aN 0)) (C := RX6) (T := TX6) (N := 7) hx hb hts hin6 hown hK hP 0 rfl rfl 0 (by decide) (hw_ hts 1 rfl) (fun _ h9 => h9) rfl dX6_figureOfDish_77 ?_
    refine va_get (D := (dC, dI)) (ci := 5) (v := .ref (aN 3)) (C := RX5) (T := TX5) (N := 12) hx hb hts hin5 hown hK hP 1 rfl rfl 3 (by decide) (hw_ hts 4 rfl) (fun _ h9 => h9) rfl dX6_figureOfDish_80 ?_
    refine lv_iload_n hx hb dX6_figureOfDish_83 rfl (lv_at hl 1 rfl) ?_
    refine va_calli (va_runS (As := [.ref (aN 3), .int p1]) (rest := []) ⟨hx, hb, hml, hown, hts⟩ (met_X6_at l dC dI cI cZ cS (aN 3) 12 (by decide) (S 3) s.heap.size p1) (va_cwS 2 hts gX6_figureOfDish_X6_at rfl rfl rfl (by decide +kernel) ⟨Nat.le_of_ble_eq_true rfl, Nat.le_of_ble_eq_true rfl⟩) (pS (wc := [((aN 3), .inl (cI, 12, .inl (S 3)))]) hK hP hD hN [4] rfl (by decide)) rfl rfl hl.1 rfl (lv_room (Nat.le_of_ble_eq_true rfl)) dX6_figureOfDish_84 ⟨Nat.zero_le _, Nat.zero_le _⟩) hS (fun q _ h => a0_in hS hA q h) (a0_in hS hA) (fun r6 u t H1 locs ht hvm hw hB hz1 hk1 hS => ?_)
    subst hw
    have hP := rdk hP hk1
    exact W.iret (v := (f6_at 12 (S 3) p1)) hx hb hr (fun t ht hW => ⟨⟨(f6_at 12 (S 3) p1), Y, rfl, hR, P_at ht hP⟩, hS.F ht⟩) hS.2.2 dX6_figureOfDish_87
  rw [if_neg c_5] at hR
  by_cases c_7 : p2 = 3
  · rw [if_pos c_7] at hR
    refine lv_tableIn (tgt := 88) hx hb dX6_figureOfDish_1 (by rw [c_7]; decide) (by rw [c_7]; decide) (by rw [c_7]; rfl) (by decide) ?_
    refine lv_aload_n hx hb dX6_figureOfDish_88 rfl (lv_at hl 0 rfl) ?_
    refine va_get (D := (dC, dI)) (ci := 6) (v := .ref (aN 0)) (C := RX6) (T := TX6) (N := 7) hx hb hts hin6 hown hK hP 0 rfl rfl 0 (by decide) (hw_ hts 1 rfl) (fun _ h9 => h9) rfl dX6_figureOfDish_89 ?_
    refine va_get (D := (dC, dI)) (ci := 5) (v := .ref (aN 4)) (C := RX5) (T := TX5) (N := 12) hx hb hts hin5 hown hK hP 1 rfl rfl 4 (by decide) (hw_ hts 5 rfl) (fun _ h9 => h9) rfl dX6_figureOfDish_92 ?_
    refine lv_iload_n hx hb dX6_figureOfDish_95 rfl (lv_at hl 1 rfl) ?_
    refine va_calli (va_runS (As := [.ref (aN 4), .int p1]) (rest := []) ⟨hx, hb, hml, hown, hts⟩ (met_X6_at l dC dI cI cZ cS (aN 4) 12 (by decide) (S 4) s.heap.size p1) (va_cwS 2 hts gX6_figureOfDish_X6_at rfl rfl rfl (by decide +kernel) ⟨Nat.le_of_ble_eq_true rfl, Nat.le_of_ble_eq_true rfl⟩) (pS (wc := [((aN 4), .inl (cI, 12, .inl (S 4)))]) hK hP hD hN [5] rfl (by decide)) rfl rfl hl.1 rfl (lv_room (Nat.le_of_ble_eq_true rfl)) dX6_figureOfDish_96 ⟨Nat.zero_le _, Nat.zero_le _⟩) hS (fun q _ h => a0_in hS hA q h) (a0_in hS hA) (fun r8 u t H1 locs ht hvm hw hB hz1 hk1 hS => ?_)
    subst hw
    have hP := rdk hP hk1
    exact W.iret (v := (f6_at 12 (S 4) p1)) hx hb hr (fun t ht hW => ⟨⟨(f6_at 12 (S 4) p1), Y, rfl, hR, P_at ht hP⟩, hS.F ht⟩) hS.2.2 dX6_figureOfDish_99
  rw [if_neg c_7] at hR
  by_cases c_9 : p2 = 4
  · rw [if_pos c_9] at hR
    refine lv_tableIn (tgt := 100) hx hb dX6_figureOfDish_1 (by rw [c_9]; decide) (by rw [c_9]; decide) (by rw [c_9]; rfl) (by decide) ?_
    refine lv_aload_n hx hb dX6_figureOfDish_100 rfl (lv_at hl 0 rfl) ?_
    refine va_get (D := (dC, dI)) (ci := 6) (v := .ref (aN 0)) (C := RX6) (T := TX6) (N := 7) hx hb hts hin6 hown hK hP 0 rfl rfl 0 (by decide) (hw_ hts 1 rfl) (fun _ h9 => h9) rfl dX6_figureOfDish_101 ?_
    refine va_get (D := (dC, dI)) (ci := 5) (v := .ref (aN 5)) (C := RX5) (T := TX5) (N := 12) hx hb hts hin5 hown hK hP 1 rfl rfl 5 (by decide) (hw_ hts 6 rfl) (fun _ h9 => h9) rfl dX6_figureOfDish_104 ?_
    refine lv_iload_n hx hb dX6_figureOfDish_107 rfl (lv_at hl 1 rfl) ?_
    refine va_calli (va_runS (As := [.ref (aN 5), .int p1]) (rest := []) ⟨hx, hb, hml, hown, hts⟩ (met_X6_at l dC dI cI cZ cS (aN 5) 12 (by decide) (S 5) s.heap.size p1) (va_cwS 2 hts gX6_figureOfDish_X6_at rfl rfl rfl (by decide +kernel) ⟨Nat.le_of_ble_eq_true rfl, Nat.le_of_ble_eq_true rfl⟩) (pS (wc := [((aN 5), .inl (cI, 12, .inl (S 5)))]) hK hP hD hN [6] rfl (by decide)) rfl rfl hl.1 rfl (lv_room (Nat.le_of_ble_eq_true rfl)) dX6_figureOfDish_108 ⟨Nat.zero_le _, Nat.zero_le _⟩) hS (fun q _ h => a0_in hS hA q h) (a0_in hS hA) (fun r10 u t H1 locs ht hvm hw hB hz1 hk1 hS => ?_)
    subst hw
    have hP := rdk hP hk1
    exact W.iret (v := (f6_at 12 (S 5) p1)) hx hb hr (fun t ht hW => ⟨⟨(f6_at 12 (S 5) p1), Y, rfl, hR, P_at ht hP⟩, hS.F ht⟩) hS.2.2 dX6_figureOfDish_111
  rw [if_neg c_9] at hR
  by_cases c_11 : p2 = 5
  · rw [if_pos c_11] at hR
    refine lv_tableIn (tgt := 112) hx hb dX6_figureOfDish_1 (by rw [c_11]; decide) (by rw [c_11]; decide) (by rw [c_11]; rfl) (by decide) ?_
    refine lv_aload_n hx hb dX6_figureOfDish_112 rfl (lv_at hl 0 rfl) ?_
    refine va_get (D := (dC, dI)) (ci := 6) (v := .ref (aN 0)) (C := RX6) (T := TX6) (N := 7) hx hb hts hin6 hown hK hP 0 rfl rfl 0 (by decide) (hw_ hts 1 rfl) (fun _ h9 => h9) rfl dX6_figureOfDish_113 ?_
    refine va_get (D := (dC, dI)) (ci := 5) (v := .ref (aN 6)) (C := RX5) (T := TX5) (N := 12) hx hb hts hin5 hown hK hP 1 rfl rfl 6 (by decide) (hw_ hts 7 rfl) (fun _ h9 => h9) rfl dX6_figureOfDish_116 ?_
    refine lv_iload_n hx hb dX6_figureOfDish_119 rfl (lv_at hl 1 rfl) ?_
    refine va_calli (va_runS (As := [.ref (aN 6), .int p1]) (rest := []) ⟨hx, hb, hml, hown, hts⟩ (met_X6_at l dC dI cI cZ cS (aN 6) 12 (by decide) (S 6) s.heap.size p1) (va_cwS 2 hts gX6_figureOfDish_X6_at rfl rfl rfl (by decide +kernel) ⟨Nat.le_of_ble_eq_true rfl, Nat.le_of_ble_eq_true rfl⟩) (pS (wc := [((aN 6), .inl (cI, 12, .inl (S 6)))]) hK hP hD hN [7] rfl (by decide)) rfl rfl hl.1 rfl (lv_room (Nat.le_of_ble_eq_true rfl)) dX6_figureOfDish_120 ⟨Nat.zero_le _, Nat.zero_le _⟩) hS (fun q _ h => a0_in hS hA q h) (a0_in hS hA) (fun r12 u t H1 locs ht hvm hw hB hz1 hk1 hS => ?_)
    subst hw
    have hP := rdk hP hk1
    exact W.iret (v := (f6_at 12 (S 6) p1)) hx hb hr (fun t ht hW => ⟨⟨(f6_at 12 (S 6) p1), Y, rfl, hR, P_at ht hP⟩, hS.F ht⟩) hS.2.2 dX6_figureOfDish_123
  rw [if_neg c_11] at hR
  by_cases c_13 : p2 = 6
  · rw [if_pos c_13] at hR
    refine lv_tableIn (tgt := 124) hx hb dX6_figureOfDish_1 (by rw [c_13]; decide) (by rw [c_13]; decide) (by rw [c_13]; rfl) (by decide) ?_
    refine lv_aload_n hx hb dX6_figureOfDish_124 rfl (lv_at hl 0 rfl) ?_
    refine va_get (D := (dC, dI)) (ci := 6) (v := .ref (aN 0)) (C := RX6) (T := TX6) (N := 7) hx hb hts hin6 hown hK hP 0 rfl rfl 0 (by decide) (hw_ hts 1 rfl) (fun _ h9 => h9) rfl dX6_figureOfDish_125 ?_
    refine lv_iload_n hx hb dX6_figureOfDish_128 rfl (lv_at hl 1 rfl) ?_
    refine va_calli (va_runV (As := [.int p1]) (rest := []) ⟨hx, hb, hml, hown, hts⟩ (met_X5_isLeftover l dC dI cI cZ cS aN S s.heap.size p1) (cwV 1 hts gX6_figureOfDish_X5_isLeftover rfl rfl rfl (by decide +kernel) ⟨Nat.le_of_ble_eq_true rfl, Nat.le_of_ble_eq_true rfl⟩) (pV (wc := wSt cI aN S) (ci := 5) (q0 := 1) hK hP hD hN [1, 2, 3, 4, 5, 6, 7, 8, 9, 10, 11] rfl (by decide) rfl rfl) rfl rfl hl.1 rfl (lv_room (Nat.le_of_ble_eq_true rfl)) dX6_figureOfDish_129 ⟨Nat.zero_le _, Nat.zero_le _⟩) hS (fun q _ h => a0_in hS hA q h) (a0_in hS hA) (fun r14 u t H1 locs ht hvm hw hB hz1 hk1 hS => ?_)
    obtain ⟨hw, nb15⟩ := hw
    have hR := bd_n hw hR
    have hP := rdk hP hk1
    refine lv_if_eq (tgt := 139) hx hb dX6_figureOfDish_132 (by decide) (fun c_16 => ?_) (fun c_16 => ?_)
    · rw [if_pos c_16] at hR
      refine lv_iconst (v := (0 : Int32)) hx hb dX6_figureOfDish_139 (by decide) ?_
      exact W.iret (v := (0 : Int32)) hx hb hr (fun t ht hW => ⟨⟨(0 : Int32), Y, rfl, hR, P_at ht hP⟩, hS.F ht⟩) hS.2.2 dX6_figureOfDish_140
    · rw [if_neg c_16] at hR
      refine lv_iconst (v := (1 : Int32)) hx hb dX6_figureOfDish_135 (by decide) ?_
      refine lv_goto (tgt := 140) hx hb dX6_figureOfDish_136 (by decide) ?_
      exact W.iret (v := (1 : Int32)) hx hb hr (fun t ht hW => ⟨⟨(1 : Int32), Y, rfl, hR, P_at ht hP⟩, hS.F ht⟩) hS.2.2 dX6_figureOfDish_140
  rw [if_neg c_13] at hR
  by_cases c_17 : p2 = 7
  · rw [if_pos c_17] at hR
    refine lv_tableIn (tgt := 141) hx hb dX6_figureOfDish_1 (by rw [c_17]; decide) (by rw [c_17]; decide) (by rw [c_17]; rfl) (by decide) ?_
    refine lv_aload_n hx hb dX6_figureOfDish_141 rfl (lv_at hl 0 rfl) ?_
    refine va_get (D := (dC, dI)) (ci := 6) (v := .ref (aN 0)) (C := RX6) (T := TX6) (N := 7) hx hb hts hin6 hown hK hP 0 rfl rfl 0 (by decide) (hw_ hts 1 rfl) (fun _ h9 => h9) rfl dX6_figureOfDish_142 ?_
    refine lv_iload_n hx hb dX6_figureOfDish_145 rfl (lv_at hl 1 rfl) ?_
    refine va_calli (va_runV (As := [.int p1]) (rest := []) ⟨hx, hb, hml, hown, hts⟩ (met_X5_timesPlanned l dC dI cI cZ cS aN S s.heap.size p1) (cwV 1 hts gX6_figureOfDish_X5_timesPlanned rfl rfl rfl (by decide +kernel) ⟨Nat.le_of_ble_eq_true rfl, Nat.le_of_ble_eq_true rfl⟩) (pV (wc := wSt cI aN S) (ci := 5) (q0 := 1) hK hP hD hN [1, 2, 3, 4, 5, 6, 7, 8, 9, 10, 11] rfl (by decide) rfl rfl) rfl rfl hl.1 rfl (lv_room (Nat.le_of_ble_eq_true rfl)) dX6_figureOfDish_146 ⟨Nat.zero_le _, Nat.zero_le _⟩) hS (fun q _ h => a0_in hS hA q h) (a0_in hS hA) (fun r18 u t H1 locs ht hvm hw hB hz1 hk1 hS => ?_)
    have hR := bd_n hw hR
    have hP := rdk hP hk1
    exact W.iret (v := r18) hx hb hr (fun t ht hW => ⟨⟨r18, Y, rfl, hR, P_at ht hP⟩, hS.F ht⟩) hS.2.2 dX6_figureOfDish_149
  rw [if_neg c_17] at hR
  by_cases c_19 : p2 = 8
  · rw [if_pos c_19] at hR
    refine lv_tableIn (tgt := 150) hx hb dX6_figureOfDish_1 (by rw [c_19]; decide) (by rw [c_19]; decide) (by rw [c_19]; rfl) (by decide) ?_
    refine lv_aload_n hx hb dX6_figureOfDish_150 rfl (lv_at hl 0 rfl) ?_
    refine va_get (D := (dC, dI)) (ci := 6) (v := .ref (aL 0)) (C := RX6) (T := TX6) (N := 7) hx hb hts hin6 hown hK hP 0 rfl rfl 2 (by decide) (hw_ hts 8 rfl) (fun _ h9 => h9) rfl dX6_figureOfDish_151 ?_
    refine lv_aload_n hx hb dX6_figureOfDish_154 rfl (lv_at hl 0 rfl) ?_
    refine va_get (D := (dC, dI)) (ci := 6) (v := .ref (aN 0)) (C := RX6) (T := TX6) (N := 7) hx hb hts hin6 hown hK hP 0 rfl rfl 0 (by decide) (hw_ hts 1 rfl) (fun _ h9 => h9) rfl dX6_figureOfDish_155 ?_
    refine lv_iload_n hx hb dX6_figureOfDish_158 rfl (lv_at hl 1 rfl) ?_
    have hF := va_free (wc := wLo cI aL Y ++ (wSt cI aN S)) hD hS hA [12, 13, 14, 1, 2, 3, 4, 5, 6, 7, 8, 9, 10, 11] rfl
    refine va_calli (va_runV (As := [.ref (aN 0), .int p1]) (rest := []) ⟨hx, hb, hml, hown, hts⟩ (met_X1_wastedOf l dC dI cI cZ cS aL aN Y S s.heap.size p1) (cwV 2 hts gX6_figureOfDish_X1_wastedOf rfl rfl rfl (by decide +kernel) ⟨Nat.le_of_ble_eq_true rfl, Nat.le_of_ble_eq_true rfl⟩) (pV (wc := wLo cI aL Y ++ (wSt cI aN S)) (ci := 1) (q0 := 12) hK hP hD hN [12, 13, 14, 1, 2, 3, 4, 5, 6, 7, 8, 9, 10, 11] rfl (by decide) rfl rfl) rfl rfl hl.1 rfl (lv_room (Nat.le_of_ble_eq_true rfl)) dX6_figureOfDish_159 ⟨Nat.zero_le _, Nat.zero_le _⟩) hS (fun q _ h => hF q h) hF (fun r20 u21 t H1 locs ht hvm hw hB hz1 hk1 hS => ?_)
    try dsimp only at hw hB
    rw [ht] at hB
    have hR := bd2_n hw hR
    have hP := wrk2 (w2 := wFm aF aN aT aL aO aH aP aX ++ (wSt cI aN S ++ (wLo cI aL u21))) (wr := wFm aF aN aT aL aO aH aP aX) hP hD [12, 13, 14, 1, 2, 3, 4, 5, 6, 7, 8, 9, 10, 11] [0] rfl rfl (by decide) hk1 hB [0, 4, 5, 6, 7, 8, 9, 10, 11, 12, 13, 14, 1, 2, 3] rfl
    have hD := D_addr (w1 := wFm aF aN aT aL aO aH aP aX ++ (wSt cI aN S ++ (wLo cI aL u21))) hD rfl
    exact W.iret (v := r20) hx hb hr (fun t ht hW => ⟨⟨r20, u21, rfl, hR, P_at ht hP⟩, hS.F ht⟩) hS.2.2 dX6_figureOfDish_162
  rw [if_neg c_19] at hR
  refine lv_tableOut (tgt := 163) hx hb dX6_figureOfDish_1 (sw_out [0, 1, 2, 3, 4, 5, 6, 7, 8] (fun z h1 h2 => by simp; omega) (List.forall_mem_cons.mpr ⟨lv_neT (a := 0) c_1 rfl, List.forall_mem_cons.mpr ⟨lv_neT (a := 1) c_3 rfl, List.forall_mem_cons.mpr ⟨lv_neT (a := 2) c_5 rfl, List.forall_mem_cons.mpr ⟨lv_neT (a := 3) c_7 rfl, List.forall_mem_cons.mpr ⟨lv_neT (a := 4) c_9 rfl, List.forall_mem_cons.mpr ⟨lv_neT (a := 5) c_11 rfl, List.forall_mem_cons.mpr ⟨lv_neT (a := 6) c_13 rfl, List.forall_mem_cons.mpr ⟨lv_neT (a := 7) c_17 rfl, List.forall_mem_cons.mpr ⟨lv_neT (a := 8) c_19 rfl, fun _ h => absurd h List.not_mem_nil⟩⟩⟩⟩⟩⟩⟩⟩⟩)) (by decide) ?_
  refine lv_iconst (v := (-1 : Int32)) hx hb dX6_figureOfDish_163 (by decide) ?_
  exact W.iret (v := (-1 : Int32)) hx hb hr (fun t ht hW => ⟨⟨(-1 : Int32), Y, rfl, hR, P_at ht hP⟩, hS.F ht⟩) hS.2.2 dX6_figureOfDish_164
abbrev rm_X6_figureOfAll : Room := { frames := 5, cells := 0, slots := 0, locals := 124 }
abbrev q_X6_figureOfAll (dC : Nat → ClassId) (dI : Nat → Nat → Nat) (cI cZ cS : ClassId) (aF aN aT aL aO aH : Nat → Nat) (ah : Nat → Nat → Nat) (aP aX : Nat → Nat) (S : Pic) (G : Pic) (N : Pic) (res : Int32 × Pic) (A : Nat → Prop) : Array Value → State → Outcome → State → Prop := va_Qi (fun (r : Int32) (u : Pic) => (r, u) = res) (fun u t => va_P (dC, dI) vwCl (wFm aF aN aT aL aO aH aP aX ++ (wSt cI aN S ++ (wLo cI aL u ++ (wOu aO aN aL ++ (wHi cS aH ah G ++ (wSn cI cZ aP N)))))) t.heap) A
set_option maxHeartbeats 4000000 in
set_option maxRecDepth 100000 in
theorem met_X6_figureOfAll (l : Launch) (dC : Nat → ClassId) (dI : Nat → Nat → Nat) (cI cZ cS : ClassId) (aF aN aT aL aO aH : Nat → Nat) (ah : Nat → Nat → Nat) (aP aX : Nat → Nat) (S : Pic) (Y : Pic) (G : Pic) (N : Pic) (sz : Nat) (p1 : Int32) : Met l yX6_figureOfAll wsX6_figureOfAll rm_X6_figureOfAll (va_Pc [.ref (aF 0), .int p1] (pW (dC, dI) (tyS cI cZ cS) (wFm aF aN aT aL aO aH aP aX ++ (wSt cI aN S ++ (wLo cI aL Y ++ (wOu aO aN aL ++ (wHi cS aH ah G ++ (wSn cI cZ aP N)))))) sz)) (q_X6_figureOfAll dC dI cI cZ cS aF aN aT aL aO aH ah aP aX S G N (f6_figureOfAll S Y G N p1) (va_A (wFm aF aN aT aL aO aH aP aX ++ (wSt cI aN S ++ (wLo cI aL Y ++ (wOu aO aN aL ++ (wHi cS aH ah G ++ (wSn cI cZ aP N)))))) sz)) 0 0 (va_A (wFm aF aN aT aL aO aH aP aX ++ (wSt cI aN S ++ (wLo cI aL Y ++ (wOu aO aN aL ++ (wHi cS aH ah G ++ (wSn cI cZ aP N)))))) sz) := by
  refine Met.ofW (cc := cX6_figureOfAll) (maxL := 2) (ret := (some .int)) (by decide) rfl ?_
  intro p e s m args below meth c s₁ B hml hv
  obtain ⟨rfl, hsz, hP, hK, hD0, hN⟩ := hv
  have hx := B.exec
  have hb := B.bytes
  have hr := B.returns
  have hts := atoms_spec (ws := wsX6_figureOfAll) B.pre
  have hown : s.vm.findClass RX6 = some m.cls := findClass_of_methodNamed B.named
  have hlocks := B.notSynchronized
  subst hsz
  have hD := hD0.self (sz := s.heap.size)
  generalize hAe : va_A (wFm aF aN aT aL aO aH aP aX ++ (wSt cI aN S ++ (wLo cI aL Y ++ (wOu aO aN aL ++ (wHi cS aH ah G ++ (wSn cI cZ aP N)))))) s.heap.size = A at hD ⊢
  have hA : ∀ q : Nat, s.heap.size ≤ q → A q := fun q h => by rw [← hAe]; exact Or.inr h
  have hS : va_S A s.heap s.heap [] := va_S.rf
  have hP : va_P (dC, dI) vwCl (wFm aF aN aT aL aO aH aP aX ++ (wSt cI aN S ++ (wLo cI aL Y ++ (wOu aO aN aL ++ (wHi cS aH ah G ++ (wSn cI cZ aP N)))))) s.heap := hP
  generalize hR : f6_figureOfAll S Y G N p1 = res
  rw [f6_figureOfAll] at hR
  have hin6 : ∀ w ∈ wsX60, w ∈ wsX6_figureOfAll := by decide +kernel
  have hin5 : ∀ w ∈ wsX50, w ∈ wsX6_figureOfAll := by decide +kernel
  have hin0 : ∀ w ∈ wsX00, w ∈ wsX6_figureOfAll := by decide +kernel
  have hl := lv_entry ([.ref (aF 0), .int p1]) (n := 2) (Nat.le_of_ble_eq_true rfl)
  rw [lg_entry_eq]
  generalize (lg_sl ([.ref (aF 0), .int p1]) ++ List.replicate (2 - (lg_sl ([.ref (aF 0), .int p1])).length) Slot.unset).toArray = ls at hl ⊢
  have hl : lv_has ls 2 [(0, .ref (aF 0)), (1, .int p1)] := hl
  refine lv_iload_n hx hb dX6_figureOfAll_0 rfl (lv_at hl 1 rfl) ?_
  by_cases c_1 : p1 = 0
  · rw [if_pos c_1] at hR
    refine lv_tableIn (tgt := 72) hx hb dX6_figureOfAll_1 (by rw [c_1]; decide) (by rw [c_1]; decide) (by rw [c_1]; rfl) (by decide) ?_
    refine lv_aload_n hx hb dX6_figureOfAll_72 rfl (lv_at hl 0 rfl) ?_
    refine va_get (D := (dC, dI)) (ci := 6) (v := .ref (aN 0)) (C := RX6) (T := TX6) (N := 7) hx hb hts hin6 hown hK hP 0 rfl rfl 0 (by decide) (hw_ hts 1 rfl) (fun _ h9 => h9) rfl dX6_figureOfAll_73 ?_
    refine va_get (D := (dC, dI)) (ci := 5) (v := .int ((S 0) 0)) (C := RX5) (T := TX5) (N := 12) hx hb hts hin5 hown hK hP 1 rfl rfl 0 (by decide) (hw_ hts 2 rfl) (fun _ h9 => h9) rfl dX6_figureOfAll_76 ?_
    exact W.iret (v := ((S 0) 0)) hx hb hr (fun t ht hW => ⟨⟨((S 0) 0), Y, rfl, hR, P_at ht hP⟩, hS.F ht⟩) hS.2.2 dX6_figureOfAll_79
  rw [if_neg c_1] at hR
  by_cases c_2 : p1 = 1
  · rw [if_pos c_2] at hR
    refine lv_tableIn (tgt := 80) hx hb dX6_figureOfAll_1 (by rw [c_2]; decide) (by rw [c_2]; decide) (by rw [c_2]; rfl) (by decide) ?_
    refine lv_aload_n hx hb dX6_figureOfAll_80 rfl (lv_at hl 0 rfl) ?_
    refine va_get (D := (dC, dI)) (ci := 6) (v := .ref (aN 0)) (C := RX6) (T := TX6) (N := 7) hx hb hts hin6 hown hK hP 0 rfl rfl 0 (by decide) (hw_ hts 1 rfl) (fun _ h9 => h9) rfl dX6_figureOfAll_81 ?_
    refine va_get (D := (dC, dI)) (ci := 5) (v := .int ((S 7) 0)) (C := RX5) (T := TX5) (N := 12) hx hb hts hin5 hown hK hP 1 rfl rfl 7 (by decide) (hw_ hts 3 rfl) (fun _ h9 => h9) rfl dX6_figureOfAll_84 ?_
    exact W.iret (v := ((S 7) 0)) hx hb hr (fun t ht hW => ⟨⟨((S 7) 0), Y, rfl, hR, P_at ht hP⟩, hS.F ht⟩) hS.2.2 dX6_figureOfAll_87
  rw [if_neg c_2] at hR
  by_cases c_3 : p1 = 2
  · rw [if_pos c_3] at hR
    refine lv_tableIn (tgt := 88) hx hb dX6_figureOfAll_1 (by rw [c_3]; decide) (by rw [c_3]; decide) (by rw [c_3]; rfl) (by decide) ?_
    refine lv_aload_n hx hb dX6_figureOfAll_88 rfl (lv_at hl 0 rfl) ?_
    refine va_get (D := (dC, dI)) (ci := 6) (v := .ref (aN 0)) (C := RX6) (T := TX6) (N := 7) hx hb hts hin6 hown hK hP 0 rfl rfl 0 (by decide) (hw_ hts 1 rfl) (fun _ h9 => h9) rfl dX6_figureOfAll_89 ?_
    refine va_calli (va_runV (As := []) (rest := []) ⟨hx, hb, hml, hown, hts⟩ (met_X5_planCount l dC dI cI cZ cS aN S s.heap.size) (cwV 0 hts gX6_figureOfAll_X5_planCount rfl rfl rfl (by decide +kernel) ⟨Nat.le_of_ble_eq_true rfl, Nat.le_of_ble_eq_true rfl⟩) (pV (wc := wSt cI aN S) (ci := 5) (q0 := 1) hK hP hD hN [1, 2, 3, 4, 5, 6, 7, 8, 9, 10, 11] rfl (by decide) rfl rfl) rfl rfl hl.1 rfl (lv_room (Nat.le_of_ble_eq_true rfl)) dX6_figureOfAll_92 ⟨Nat.zero_le _, Nat.zero_le _⟩) hS (fun q _ h => a0_in hS hA q h) (a0_in hS hA) (fun r4 u t H1 locs ht hvm hw hB hz1 hk1 hS => ?_)
    have hR := bd_n hw hR
    have hP := rdk hP hk1
    exact W.iret (v := r4) hx hb hr (fun t ht hW => ⟨⟨r4, Y, rfl, hR, P_at ht hP⟩, hS.F ht⟩) hS.2.2 dX6_figureOfAll_95
  rw [if_neg c_3] at hR
  by_cases c_5 : p1 = 3
  · rw [if_pos c_5] at hR
    refine lv_tableIn (tgt := 96) hx hb dX6_figureOfAll_1 (by rw [c_5]; decide) (by rw [c_5]; decide) (by rw [c_5]; rfl) (by decide) ?_
    refine lv_aload_n hx hb dX6_figureOfAll_96 rfl (lv_at hl 0 rfl) ?_
    refine va_get (D := (dC, dI)) (ci := 6) (v := .ref (aO 0)) (C := RX6) (T := TX6) (N := 7) hx hb hts hin6 hown hK hP 0 rfl rfl 3 (by decide) (hw_ hts 4 rfl) (fun _ h9 => h9) rfl dX6_figureOfAll_97 ?_
    refine va_calli (va_runV (As := []) (rest := []) ⟨hx, hb, hml, hown, hts⟩ (met_X2_joyOfPlan l dC dI cI cZ cS aO aL aN Y S s.heap.size) (cwV 0 hts gX6_figureOfAll_X2_joyOfPlan rfl rfl rfl (by decide +kernel) ⟨Nat.le_of_ble_eq_true rfl, Nat.le_of_ble_eq_true rfl⟩) (pV (wc := wOu aO aN aL ++ (wLo cI aL Y ++ (wSt cI aN S))) (ci := 2) (q0 := 15) hK hP hD hN [15, 12, 13, 14, 1, 2, 3, 4, 5, 6, 7, 8, 9, 10, 11] rfl (by decide) rfl rfl) rfl rfl hl.1 rfl (lv_room (Nat.le_of_ble_eq_true rfl)) dX6_figureOfAll_100 ⟨Nat.zero_le _, Nat.zero_le _⟩) hS (fun q _ h => a0_in hS hA q h) (a0_in hS hA) (fun r6 u t H1 locs ht hvm hw hB hz1 hk1 hS => ?_)
    have hR := bd_n hw hR
    have hP := rdk hP hk1
    exact W.iret (v := r6) hx hb hr (fun t ht hW => ⟨⟨r6, Y, rfl, hR, P_at ht hP⟩, hS.F ht⟩) hS.2.2 dX6_figureOfAll_103
  rw [if_neg c_5] at hR
  by_cases c_7 : p1 = 4
  · rw [if_pos c_7] at hR
    refine lv_tableIn (tgt := 104) hx hb dX6_figureOfAll_1 (by rw [c_7]; decide) (by rw [c_7]; decide) (by rw [c_7]; rfl) (by decide) ?_
    refine lv_aload_n hx hb dX6_figureOfAll_104 rfl (lv_at hl 0 rfl) ?_
    refine va_get (D := (dC, dI)) (ci := 6) (v := .ref (aN 0)) (C := RX6) (T := TX6) (N := 7) hx hb hts hin6 hown hK hP 0 rfl rfl 0 (by decide) (hw_ hts 1 rfl) (fun _ h9 => h9) rfl dX6_figureOfAll_105 ?_
    refine va_calli (va_runV (As := []) (rest := []) ⟨hx, hb, hml, hown, hts⟩ (met_X5_planCost l dC dI cI cZ cS aN S s.heap.size) (cwV 0 hts gX6_figureOfAll_X5_planCost rfl rfl rfl (by decide +kernel) ⟨Nat.le_of_ble_eq_true rfl, Nat.le_of_ble_eq_true rfl⟩) (pV (wc := wSt cI aN S) (ci := 5) (q0 := 1) hK hP hD hN [1, 2, 3, 4, 5, 6, 7, 8, 9, 10, 11] rfl (by decide) rfl rfl) rfl rfl hl.1 rfl (lv_room (Nat.le_of_ble_eq_true rfl)) dX6_figureOfAll_108 ⟨Nat.zero_le _, Nat.zero_le _⟩) hS (fun q _ h => a0_in hS hA q h) (a0_in hS hA) (fun r8 u t H1 locs ht hvm hw hB hz1 hk1 hS => ?_)
    have hR := bd_n hw hR
    have hP := rdk hP hk1
    exact W.iret (v := r8) hx hb hr (fun t ht hW => ⟨⟨r8, Y, rfl, hR, P_at ht hP⟩, hS.F ht⟩) hS.2.2 dX6_figureOfAll_111
  rw [if_neg c_7] at hR
  by_cases c_9 : p1 = 5
  · rw [if_pos c_9] at hR
    refine lv_tableIn (tgt := 112) hx hb dX6_figureOfAll_1 (by rw [c_9]; decide) (by rw [c_9]; decide) (by rw [c_9]; rfl) (by decide) ?_
    refine lv_aload_n hx hb dX6_figureOfAll_112 rfl (lv_at hl 0 rfl) ?_
    refine va_get (D := (dC, dI)) (ci := 6) (v := .ref (aN 0)) (C := RX6) (T := TX6) (N := 7) hx hb hts hin6 hown hK hP 0 rfl rfl 0 (by decide) (hw_ hts 1 rfl) (fun _ h9 => h9) rfl dX6_figureOfAll_113 ?_
    refine va_calli (va_runV (As := []) (rest := []) ⟨hx, hb, hml, hown, hts⟩ (met_X5_sourceCount l dC dI cI cZ cS aN S s.heap.size) (cwV 0 hts gX6_figureOfAll_X5_sourceCount rfl rfl rfl (by decide +kernel) ⟨Nat.le_of_ble_eq_true rfl, Nat.le_of_ble_eq_true rfl⟩) (pV (wc := wSt cI aN S) (ci := 5) (q0 := 1) hK hP hD hN [1, 2, 3, 4, 5, 6, 7, 8, 9, 10, 11] rfl (by decide) rfl rfl) rfl rfl hl.1 rfl (lv_room (Nat.le_of_ble_eq_true rfl)) dX6_figureOfAll_116 ⟨Nat.zero_le _, Nat.zero_le _⟩) hS (fun q _ h => a0_in hS hA q h) (a0_in hS hA) (fun r10 u t H1 locs ht hvm hw hB hz1 hk1 hS => ?_)
    have hR := bd_n hw hR
    have hP := rdk hP hk1
    exact W.iret (v := r10) hx hb hr (fun t ht hW => ⟨⟨r10, Y, rfl, hR, P_at ht hP⟩, hS.F ht⟩) hS.2.2 dX6_figureOfAll_119
  rw [if_neg c_9] at hR
  by_cases c_11 : p1 = 6
  · rw [if_pos c_11] at hR
    refine lv_tableIn (tgt := 120) hx hb dX6_figureOfAll_1 (by rw [c_11]; decide) (by rw [c_11]; decide) (by rw [c_11]; rfl) (by decide) ?_
    refine lv_aload_n hx hb dX6_figureOfAll_120 rfl (lv_at hl 0 rfl) ?_
    refine va_get (D := (dC, dI)) (ci := 6) (v := .ref (aL 0)) (C := RX6) (T := TX6) (N := 7) hx hb hts hin6 hown hK hP 0 rfl rfl 2 (by decide) (hw_ hts 5 rfl) (fun _ h9 => h9) rfl dX6_figureOfAll_121 ?_
    refine lv_aload_n hx hb dX6_figureOfAll_124 rfl (lv_at hl 0 rfl) ?_
    refine va_get (D := (dC, dI)) (ci := 6) (v := .ref (aN 0)) (C := RX6) (T := TX6) (N := 7) hx hb hts hin6 hown hK hP 0 rfl rfl 0 (by decide) (hw_ hts 1 rfl) (fun _ h9 => h9) rfl dX6_figureOfAll_125 ?_
    have hF := va_free (wc := wLo cI aL Y ++ (wSt cI aN S)) hD hS hA [12, 13, 14, 1, 2, 3, 4, 5, 6, 7, 8, 9, 10, 11] rfl
    refine va_calli (va_runV (As := [.ref (aN 0)]) (rest := []) ⟨hx, hb, hml, hown, hts⟩ (met_X1_wastedOfAll l dC dI cI cZ cS aL aN Y S s.heap.size) (cwV 1 hts gX6_figureOfAll_X1_wastedOfAll rfl rfl rfl (by decide +kernel) ⟨Nat.le_of_ble_eq_true rfl, Nat.le_of_ble_eq_true rfl⟩) (pV (wc := wLo cI aL Y ++ (wSt cI aN S)) (ci := 1) (q0 := 12) hK hP hD hN [12, 13, 14, 1, 2, 3, 4, 5, 6, 7, 8, 9, 10, 11] rfl (by decide) rfl rfl) rfl rfl hl.1 rfl (lv_room (Nat.le_of_ble_eq_true rfl)) dX6_figureOfAll_128 ⟨Nat.zero_le _, Nat.zero_le _⟩) hS (fun q _ h => hF q h) hF (fun r12 u13 t H1 locs ht hvm hw hB hz1 hk1 hS => ?_)
    try dsimp only at hw hB
    rw [ht] at hB
    have hR := bd2_n hw hR
    have hP := wrk2 (w2 := wFm aF aN aT aL aO aH aP aX ++ (wSt cI aN S ++ (wLo cI aL u13 ++ (wOu aO aN aL ++ (wHi cS aH ah G ++ (wSn cI cZ aP N)))))) (wr := wFm aF aN aT aL aO aH aP aX ++ (wOu aO aN aL ++ (wHi cS aH ah G ++ (wSn cI cZ aP N)))) hP hD [12, 13, 14, 1, 2, 3, 4, 5, 6, 7, 8, 9, 10, 11] [0, 15, 16, 17, 18, 19, 20] rfl rfl (by decide) hk1 hB [0, 10, 11, 12, 13, 14, 15, 16, 17, 18, 19, 20, 7, 8, 9, 1, 2, 3, 4, 5, 6] rfl
    have hD := D_addr (w1 := wFm aF aN aT aL aO aH aP aX ++ (wSt cI aN S ++ (wLo cI aL u13 ++ (wOu aO aN aL ++ (wHi cS aH ah G ++ (wSn cI cZ aP N)))))) hD rfl
    exact W.iret (v := r12) hx hb hr (fun t ht hW => ⟨⟨r12, u13, rfl, hR, P_at ht hP⟩, hS.F ht⟩) hS.2.2 dX6_figureOfAll_131
  rw [if_neg c_11] at hR
  by_cases c_14 : p1 = 7
  · rw [if_pos c_14] at hR
    refine lv_tableIn (tgt := 132) hx hb dX6_figureOfAll_1 (by rw [c_14]; decide) (by rw [c_14]; decide) (by rw [c_14]; rfl) (by decide) ?_
    refine lv_aload_n hx hb dX6_figureOfAll_132 rfl (lv_at hl 0 rfl) ?_
    refine va_get (D := (dC, dI)) (ci := 6) (v := .ref (aN 0)) (C := RX6) (T := TX6) (N := 7) hx hb hts hin6 hown hK hP 0 rfl rfl 0 (by decide) (hw_ hts 1 rfl) (fun _ h9 => h9) rfl dX6_figureOfAll_133 ?_
    refine va_calli (va_runV (As := []) (rest := []) ⟨hx, hb, hml, hown, hts⟩ (met_X5_wholeMeals l dC dI cI cZ cS aN S s.heap.size) (cwV 0 hts gX6_figureOfAll_X5_wholeMeals rfl rfl rfl (by decide +kernel) ⟨Nat.le_of_ble_eq_true rfl, Nat.le_of_ble_eq_true rfl⟩) (pV (wc := wSt cI aN S) (ci := 5) (q0 := 1) hK hP hD hN [1, 2, 3, 4, 5, 6, 7, 8, 9, 10, 11] rfl (by decide) rfl rfl) rfl rfl hl.1 rfl (lv_room (Nat.le_of_ble_eq_true rfl)) dX6_figureOfAll_136 ⟨Nat.zero_le _, Nat.zero_le _⟩) hS (fun q _ h => a0_in hS hA q h) (a0_in hS hA) (fun r15 u t H1 locs ht hvm hw hB hz1 hk1 hS => ?_)
    have hR := bd_n hw hR
    have hP := rdk hP hk1
    exact W.iret (v := r15) hx hb hr (fun t ht hW => ⟨⟨r15, Y, rfl, hR, P_at ht hP⟩, hS.F ht⟩) hS.2.2 dX6_figureOfAll_139
  rw [if_neg c_14] at hR
  by_cases c_16 : p1 = 8
  · rw [if_pos c_16] at hR
    refine lv_tableIn (tgt := 140) hx hb dX6_figureOfAll_1 (by rw [c_16]; decide) (by rw [c_16]; decide) (by rw [c_16]; rfl) (by decide) ?_
    refine lv_aload_n hx hb dX6_figureOfAll_140 rfl (lv_at hl 0 rfl) ?_
    refine va_get (D := (dC, dI)) (ci := 6) (v := .ref (aN 0)) (C := RX6) (T := TX6) (N := 7) hx hb hts hin6 hown hK hP 0 rfl rfl 0 (by decide) (hw_ hts 1 rfl) (fun _ h9 => h9) rfl dX6_figureOfAll_141 ?_
    refine lv_iload_n hx hb dX6_figureOfAll_144 rfl (lv_at hl 1 rfl) ?_
    refine lv_bipush (v := (8 : Int32)) hx hb dX6_figureOfAll_145 (by decide) ?_
    refine lv_isub hx hb dX6_figureOfAll_147 ?_
    refine va_calli (va_runV (As := [.int (p1 - (8 : Int32))]) (rest := []) ⟨hx, hb, hml, hown, hts⟩ (met_X5_weekCost l dC dI cI cZ cS aN S s.heap.size (p1 - (8 : Int32))) (cwV 1 hts gX6_figureOfAll_X5_weekCost rfl rfl rfl (by decide +kernel) ⟨Nat.le_of_ble_eq_true rfl, Nat.le_of_ble_eq_true rfl⟩) (pV (wc := wSt cI aN S) (ci := 5) (q0 := 1) hK hP hD hN [1, 2, 3, 4, 5, 6, 7, 8, 9, 10, 11] rfl (by decide) rfl rfl) rfl rfl hl.1 rfl (lv_room (Nat.le_of_ble_eq_true rfl)) dX6_figureOfAll_148 ⟨Nat.zero_le _, Nat.zero_le _⟩) hS (fun q _ h => a0_in hS hA q h) (a0_in hS hA) (fun r17 u t H1 locs ht hvm hw hB hz1 hk1 hS => ?_)
    have hR := bd_n hw hR
    have hP := rdk hP hk1
    exact W.iret (v := r17) hx hb hr (fun t ht hW => ⟨⟨r17, Y, rfl, hR, P_at ht hP⟩, hS.F ht⟩) hS.2.2 dX6_figureOfAll_151
  rw [if_neg c_16] at hR
  by_cases c_18 : p1 = 9
  · rw [if_pos c_18] at hR
    refine lv_tableIn (tgt := 140) hx hb dX6_figureOfAll_1 (by rw [c_18]; decide) (by rw [c_18]; decide) (by rw [c_18]; rfl) (by decide) ?_
    refine lv_aload_n hx hb dX6_figureOfAll_140 rfl (lv_at hl 0 rfl) ?_
    refine va_get (D := (dC, dI)) (ci := 6) (v := .ref (aN 0)) (C := RX6) (T := TX6) (N := 7) hx hb hts hin6 hown hK hP 0 rfl rfl 0 (by decide) (hw_ hts 1 rfl) (fun _ h9 => h9) rfl dX6_figureOfAll_141 ?_
    refine lv_iload_n hx hb dX6_figureOfAll_144 rfl (lv_at hl 1 rfl) ?_
    refine lv_bipush (v := (8 : Int32)) hx hb dX6_figureOfAll_145 (by decide) ?_
    refine lv_isub hx hb dX6_figureOfAll_147 ?_
    refine va_calli (va_runV (As := [.int (p1 - (8 : Int32))]) (rest := []) ⟨hx, hb, hml, hown, hts⟩ (met_X5_weekCost l dC dI cI cZ cS aN S s.heap.size (p1 - (8 : Int32))) (cwV 1 hts gX6_figureOfAll_X5_weekCost rfl rfl rfl (by decide +kernel) ⟨Nat.le_of_ble_eq_true rfl, Nat.le_of_ble_eq_true rfl⟩) (pV (wc := wSt cI aN S) (ci := 5) (q0 := 1) hK hP hD hN [1, 2, 3, 4, 5, 6, 7, 8, 9, 10, 11] rfl (by decide) rfl rfl) rfl rfl hl.1 rfl (lv_room (Nat.le_of_ble_eq_true rfl)) dX6_figureOfAll_148 ⟨Nat.zero_le _, Nat.zero_le _⟩) hS (fun q _ h => a0_in hS hA q h) (a0_in hS hA) (fun r19 u t H1 locs ht hvm hw hB hz1 hk1 hS => ?_)
    have hR := bd_n hw hR
    have hP := rdk hP hk1
    exact W.iret (v := r19) hx hb hr (fun t ht hW => ⟨⟨r19, Y, rfl, hR, P_at ht hP⟩, hS.F ht⟩) hS.2.2 dX6_figureOfAll_151
  rw [if_neg c_18] at hR
  by_cases c_20 : p1 = 10
  · rw [if_pos c_20] at hR
    refine lv_tableIn (tgt := 140) hx hb dX6_figureOfAll_1 (by rw [c_20]; decide) (by rw [c_20]; decide) (by rw [c_20]; rfl) (by decide) ?_
    refine lv_aload_n hx hb dX6_figureOfAll_140 rfl (lv_at hl 0 rfl) ?_
    refine va_get (D := (dC, dI)) (ci := 6) (v := .ref (aN 0)) (C := RX6) (T := TX6) (N := 7) hx hb hts hin6 hown hK hP 0 rfl rfl 0 (by decide) (hw_ hts 1 rfl) (fun _ h9 => h9) rfl dX6_figureOfAll_141 ?_
    refine lv_iload_n hx hb dX6_figureOfAll_144 rfl (lv_at hl 1 rfl) ?_
    refine lv_bipush (v := (8 : Int32)) hx hb dX6_figureOfAll_145 (by decide) ?_
    refine lv_isub hx hb dX6_figureOfAll_147 ?_
    refine va_calli (va_runV (As := [.int (p1 - (8 : Int32))]) (rest := []) ⟨hx, hb, hml, hown, hts⟩ (met_X5_weekCost l dC dI cI cZ cS aN S s.heap.size (p1 - (8 : Int32))) (cwV 1 hts gX6_figureOfAll_X5_weekCost rfl rfl rfl (by decide +kernel) ⟨Nat.le_of_ble_eq_true rfl, Nat.le_of_ble_eq_true rfl⟩) (pV (wc := wSt cI aN S) (ci := 5) (q0 := 1) hK hP hD hN [1, 2, 3, 4, 5, 6, 7, 8, 9, 10, 11] rfl (by decide) rfl rfl) rfl rfl hl.1 rfl (lv_room (Nat.le_of_ble_eq_true rfl)) dX6_figureOfAll_148 ⟨Nat.zero_le _, Nat.zero_le _⟩) hS (fun q _ h => a0_in hS hA q h) (a0_in hS hA) (fun r21 u t H1 locs ht hvm hw hB hz1 hk1 hS => ?_)
    have hR := bd_n hw hR
    have hP := rdk hP hk1
    exact W.iret (v := r21) hx hb hr (fun t ht hW => ⟨⟨r21, Y, rfl, hR, P_at ht hP⟩, hS.F ht⟩) hS.2.2 dX6_figureOfAll_151
  rw [if_neg c_20] at hR
  by_cases c_22 : p1 = 11
  · rw [if_pos c_22] at hR
    refine lv_tableIn (tgt := 140) hx hb dX6_figureOfAll_1 (by rw [c_22]; decide) (by rw [c_22]; decide) (by rw [c_22]; rfl) (by decide) ?_
    refine lv_aload_n hx hb dX6_figureOfAll_140 rfl (lv_at hl 0 rfl) ?_
    refine va_get (D := (dC, dI)) (ci := 6) (v := .ref (aN 0)) (C := RX6) (T := TX6) (N := 7) hx hb hts hin6 hown hK hP 0 rfl rfl 0 (by decide) (hw_ hts 1 rfl) (fun _ h9 => h9) rfl dX6_figureOfAll_141 ?_
    refine lv_iload_n hx hb dX6_figureOfAll_144 rfl (lv_at hl 1 rfl) ?_
    refine lv_bipush (v := (8 : Int32)) hx hb dX6_figureOfAll_145 (by decide) ?_
    refine lv_isub hx hb dX6_figureOfAll_147 ?_
    refine va_calli (va_runV (As := [.int (p1 - (8 : Int32))]) (rest := []) ⟨hx, hb, hml, hown, hts⟩ (met_X5_weekCost l dC dI cI cZ cS aN S s.heap.size (p1 - (8 : Int32))) (cwV 1 hts gX6_figureOfAll_X5_weekCost rfl rfl rfl (by decide +kernel) ⟨Nat.le_of_ble_eq_true rfl, Nat.le_of_ble_eq_true rfl⟩) (pV (wc := wSt cI aN S) (ci := 5) (q0 := 1) hK hP hD hN [1, 2, 3, 4, 5, 6, 7, 8, 9, 10, 11] rfl (by decide) rfl rfl) rfl rfl hl.1 rfl (lv_room (Nat.le_of_ble_eq_true rfl)) dX6_figureOfAll_148 ⟨Nat.zero_le _, Nat.zero_le _⟩) hS (fun q _ h => a0_in hS hA q h) (a0_in hS hA) (fun r23 u t H1 locs ht hvm hw hB hz1 hk1 hS => ?_)
    have hR := bd_n hw hR
    have hP := rdk hP hk1
    exact W.iret (v := r23) hx hb hr (fun t ht hW => ⟨⟨r23, Y, rfl, hR, P_at ht hP⟩, hS.F ht⟩) hS.2.2 dX6_figureOfAll_151
  rw [if_neg c_22] at hR
  by_cases c_24 : p1 = 12
  · rw [if_pos c_24] at hR
    refine lv_tableIn (tgt := 152) hx hb dX6_figureOfAll_1 (by rw [c_24]; decide) (by rw [c_24]; decide) (by rw [c_24]; rfl) (by decide) ?_
    refine lv_aload_n hx hb dX6_figureOfAll_152 rfl (lv_at hl 0 rfl) ?_
    refine va_get (D := (dC, dI)) (ci := 6) (v := .ref (aP 0)) (C := RX6) (T := TX6) (N := 7) hx hb hts hin6 hown hK hP 0 rfl rfl 5 (by decide) (hw_ hts 6 rfl) (fun _ h9 => h9) rfl dX6_figureOfAll_153 ?_
    refine va_calli (va_runV (As := []) (rest := []) ⟨hx, hb, hml, hown, hts⟩ (met_X4_takenCount l dC dI cI cZ cS aP N s.heap.size) (cwV 0 hts gX6_figureOfAll_X4_takenCount rfl rfl rfl (by decide +kernel) ⟨Nat.le_of_ble_eq_true rfl, Nat.le_of_ble_eq_true rfl⟩) (pV (wc := wSn cI cZ aP N) (ci := 4) (q0 := 18) hK hP hD hN [18, 19, 20] rfl (by decide) rfl rfl) rfl rfl hl.1 rfl (lv_room (Nat.le_of_ble_eq_true rfl)) dX6_figureOfAll_156 ⟨Nat.zero_le _, Nat.zero_le _⟩) hS (fun q _ h => a0_in hS hA q h) (a0_in hS hA) (fun r25 u t H1 locs ht hvm hw hB hz1 hk1 hS => ?_)
    have hR := bd_n hw hR
    have hP := rdk hP hk1
    exact W.iret (v := r25) hx hb hr (fun t ht hW => ⟨⟨r25, Y, rfl, hR, P_at ht hP⟩, hS.F ht⟩) hS.2.2 dX6_figureOfAll_159
  rw [if_neg c_24] at hR
  by_cases c_26 : p1 = 13
  · rw [if_pos c_26] at hR
    refine lv_tableIn (tgt := 160) hx hb dX6_figureOfAll_1 (by rw [c_26]; decide) (by rw [c_26]; decide) (by rw [c_26]; rfl) (by decide) ?_
    refine lv_aload_n hx hb dX6_figureOfAll_160 rfl (lv_at hl 0 rfl) ?_
    refine va_get (D := (dC, dI)) (ci := 6) (v := .ref (aH 0)) (C := RX6) (T := TX6) (N := 7) hx hb hts hin6 hown hK hP 0 rfl rfl 4 (by decide) (hw_ hts 7 rfl) (fun _ h9 => h9) rfl dX6_figureOfAll_161 ?_
    refine va_get (D := (dC, dI)) (ci := 0) (v := .int ((G 2) 0)) (C := RX0) (T := TX0) (N := 3) hx hb hts hin0 hown hK hP 16 rfl rfl 2 (by decide) (hw_ hts 8 rfl) (fun _ h9 => h9) rfl dX6_figureOfAll_164 ?_
    exact W.iret (v := ((G 2) 0)) hx hb hr (fun t ht hW => ⟨⟨((G 2) 0), Y, rfl, hR, P_at ht hP⟩, hS.F ht⟩) hS.2.2 dX6_figureOfAll_167
  rw [if_neg c_26] at hR
  refine lv_tableOut (tgt := 168) hx hb dX6_figureOfAll_1 (sw_out [0, 1, 2, 3, 4, 5, 6, 7, 8, 9, 10, 11, 12, 13] (fun z h1 h2 => by simp; omega) (List.forall_mem_cons.mpr ⟨lv_neT (a := 0) c_1 rfl, List.forall_mem_cons.mpr ⟨lv_neT (a := 1) c_2 rfl, List.forall_mem_cons.mpr ⟨lv_neT (a := 2) c_3 rfl, List.forall_mem_cons.mpr ⟨lv_neT (a := 3) c_5 rfl, List.forall_mem_cons.mpr ⟨lv_neT (a := 4) c_7 rfl, List.forall_mem_cons.mpr ⟨lv_neT (a := 5) c_9 rfl, List.forall_mem_cons.mpr ⟨lv_neT (a := 6) c_11 rfl, List.forall_mem_cons.mpr ⟨lv_neT (a := 7) c_14 rfl, List.forall_mem_cons.mpr ⟨lv_neT (a := 8) c_16 rfl, List.forall_mem_cons.mpr ⟨lv_neT (a := 9) c_18 rfl, List.forall_mem_cons.mpr ⟨lv_neT (a := 10) c_20 rfl, List.forall_mem_cons.mpr ⟨lv_neT (a := 11) c_22 rfl, List.forall_mem_cons.mpr ⟨lv_neT (a := 12) c_24 rfl, List.forall_mem_cons.mpr ⟨lv_neT (a := 13) c_26 rfl, fun _ h => absurd h List.not_mem_nil⟩⟩⟩⟩⟩⟩⟩⟩⟩⟩⟩⟩⟩⟩)) (by decide) ?_
  refine lv_iconst (v := (-1 : Int32)) hx hb dX6_figureOfAll_168 (by decide) ?_
  exact W.iret (v := (-1 : Int32)) hx hb hr (fun t ht hW => ⟨⟨(-1 : Int32), Y, rfl, hR, P_at ht hP⟩, hS.F ht⟩) hS.2.2 dX6_figureOfAll_169
abbrev rm_X6_takeOverTrial : Room := { frames := 4, cells := 0, slots := 0, locals := 90 }
abbrev q_X6_takeOverTrial (dC : Nat → ClassId) (dI : Nat → Nat → Nat) (cI cZ cS : ClassId) (aF aN aT aL aO aH : Nat → Nat) (ah : Nat → Nat → Nat) (aP aX : Nat → Nat) (R : Pic) (res : Pic × Pic × (Nat → Pic)) (A : Nat → Prop) : Array Value → State → Outcome → State → Prop := va_Qv (fun (u : Pic × Pic × (Nat → Pic)) => u = res) (fun u t => va_P (dC, dI) vwCl (wFm aF aN aT aL aO aH aP aX ++ (wSt cI aN u.1 ++ (wSt cI aT R ++ (wHi cS aH ah u.2.1 ++ (wZs cI ah u.2.2))))) t.heap) A
set_option maxHeartbeats 4000000 in
set_option maxRecDepth 100000 in
theorem met_X6_takeOverTrial (l : Launch) (dC : Nat → ClassId) (dI : Nat → Nat → Nat) (cI cZ cS : ClassId) (aF aN aT aL aO aH : Nat → Nat) (ah : Nat → Nat → Nat) (aP aX : Nat → Nat) (S : Pic) (R : Pic) (G : Pic) (Z : (Nat → Pic)) (sz : Nat)  : Met l yX6_takeOverTrial wsX6_takeOverTrial rm_X6_takeOverTrial (va_Pc [.ref (aF 0)] (pW (dC, dI) (tyS cI cZ cS) (wFm aF aN aT aL aO aH aP aX ++ (wSt cI aN S ++ (wSt cI aT R ++ (wHi cS aH ah G ++ (wZs cI ah Z))))) sz)) (q_X6_takeOverTrial dC dI cI cZ cS aF aN aT aL aO aH ah aP aX R (f6_takeOverTrial S R G Z) (va_A (wFm aF aN aT aL aO aH aP aX ++ (wSt cI aN S ++ (wSt cI aT R ++ (wHi cS aH ah G ++ (wZs cI ah Z))))) sz)) 0 0 (va_A (wFm aF aN aT aL aO aH aP aX ++ (wSt cI aN S ++ (wSt cI aT R ++ (wHi cS aH ah G ++ (wZs cI ah Z))))) sz) := by
  refine Met.ofW (cc := cX6_takeOverTrial) (maxL := 1) (ret := none) (by decide) rfl ?_
  intro p e s m args below meth c s₁ B hml hv
  obtain ⟨rfl, hsz, hP, hK, hD0, hN⟩ := hv
  have hx := B.exec
  have hb := B.bytes
  have hr := B.returns
  have hts := atoms_spec (ws := wsX6_takeOverTrial) B.pre
  have hown : s.vm.findClass RX6 = some m.cls := findClass_of_methodNamed B.named
  have hlocks := B.notSynchronized
  subst hsz
  have hD := hD0.self (sz := s.heap.size)
  generalize hAe : va_A (wFm aF aN aT aL aO aH aP aX ++ (wSt cI aN S ++ (wSt cI aT R ++ (wHi cS aH ah G ++ (wZs cI ah Z))))) s.heap.size = A at hD ⊢
  have hA : ∀ q : Nat, s.heap.size ≤ q → A q := fun q h => by rw [← hAe]; exact Or.inr h
  have hS : va_S A s.heap s.heap [] := va_S.rf
  have hP : va_P (dC, dI) vwCl (wFm aF aN aT aL aO aH aP aX ++ (wSt cI aN S ++ (wSt cI aT R ++ (wHi cS aH ah G ++ (wZs cI ah Z))))) s.heap := hP
  generalize hR : f6_takeOverTrial S R G Z = res
  rw [f6_takeOverTrial] at hR
  have hin6 : ∀ w ∈ wsX60, w ∈ wsX6_takeOverTrial := by decide +kernel
  have hl := lv_entry ([.ref (aF 0)]) (n := 1) (Nat.le_of_ble_eq_true rfl)
  rw [lg_entry_eq]
  generalize (lg_sl ([.ref (aF 0)]) ++ List.replicate (1 - (lg_sl ([.ref (aF 0)])).length) Slot.unset).toArray = ls at hl ⊢
  have hl : lv_has ls 1 [(0, .ref (aF 0))] := hl
  refine lv_aload_n hx hb dX6_takeOverTrial_0 rfl (lv_at hl 0 rfl) ?_
  refine va_get (D := (dC, dI)) (ci := 6) (v := .ref (aH 0)) (C := RX6) (T := TX6) (N := 7) hx hb hts hin6 hown hK hP 0 rfl rfl 4 (by decide) (hw_ hts 1 rfl) (fun _ h9 => h9) rfl dX6_takeOverTrial_1 ?_
  refine lv_aload_n hx hb dX6_takeOverTrial_4 rfl (lv_at hl 0 rfl) ?_
  refine va_get (D := (dC, dI)) (ci := 6) (v := .ref (aN 0)) (C := RX6) (T := TX6) (N := 7) hx hb hts hin6 hown hK hP 0 rfl rfl 0 (by decide) (hw_ hts 2 rfl) (fun _ h9 => h9) rfl dX6_takeOverTrial_5 ?_
  have hF := va_free (wc := wHi cS aH ah G ++ (wZs cI ah Z ++ (wSt cI aN S))) hD hS hA [23, 24, 25, 26, 27, 28, 29, 30, 31, 32, 33, 34, 35, 36, 37, 38, 39, 40, 41, 42, 43, 44, 45, 46, 47, 48, 49, 50, 51, 52, 53, 54, 55, 56, 57, 58, 59, 60, 61, 62, 63, 64, 65, 66, 67, 68, 69, 70, 71, 72, 73, 74, 75, 76, 77, 78, 79, 80, 81, 82, 83, 84, 85, 86, 87, 88, 89, 90, 1, 2, 3, 4, 5, 6, 7, 8, 9, 10, 11] rfl
  refine va_callv (va_runV (As := [.ref (aN 0)]) (rest := []) ⟨hx, hb, hml, hown, hts⟩ (met_X0_save l dC dI cI cZ cS aH ah aN G Z S s.heap.size) (cwV 1 hts gX6_takeOverTrial_X0_save rfl rfl rfl (by decide +kernel) ⟨Nat.le_of_ble_eq_true rfl, Nat.le_of_ble_eq_true rfl⟩) (pV (wc := wHi cS aH ah G ++ (wZs cI ah Z ++ (wSt cI aN S))) (ci := 0) (q0 := 23) hK hP hD hN [23, 24, 25, 26, 27, 28, 29, 30, 31, 32, 33, 34, 35, 36, 37, 38, 39, 40, 41, 42, 43, 44, 45, 46, 47, 48, 49, 50, 51, 52, 53, 54, 55, 56, 57, 58, 59, 60, 61, 62, 63, 64, 65, 66, 67, 68, 69, 70, 71, 72, 73, 74, 75, 76, 77, 78, 79, 80, 81, 82, 83, 84, 85, 86, 87, 88, 89, 90, 1, 2, 3, 4, 5, 6, 7, 8, 9, 10, 11] rfl (by decide) rfl rfl) rfl rfl hl.1 rfl (lv_room (Nat.le_of_ble_eq_true rfl)) dX6_takeOverTrial_8 ⟨Nat.zero_le _, Nat.zero_le _⟩) hS (fun q _ h => hF q h) hF (fun  u t H1 locs ht hvm hw hB hz1 hk1 hS => ?_)
  obtain ⟨u1, u2⟩ := u
  try dsimp only at hw hB
  rw [ht] at hB
  have hR := bd2_n hw hR
  have hP := wrk2 (w2 := wFm aF aN aT aL aO aH aP aX ++ (wSt cI aN S ++ (wSt cI aT R ++ (wHi cS aH ah u1 ++ (wZs cI ah u2))))) (wr := wFm aF aN aT aL aO aH aP aX ++ (wSt cI aT R)) hP hD [23, 24, 25, 26, 27, 28, 29, 30, 31, 32, 33, 34, 35, 36, 37, 38, 39, 40, 41, 42, 43, 44, 45, 46, 47, 48, 49, 50, 51, 52, 53, 54, 55, 56, 57, 58, 59, 60, 61, 62, 63, 64, 65, 66, 67, 68, 69, 70, 71, 72, 73, 74, 75, 76, 77, 78, 79, 80, 81, 82, 83, 84, 85, 86, 87, 88, 89, 90, 1, 2, 3, 4, 5, 6, 7, 8, 9, 10, 11] [0, 12, 13, 14, 15, 16, 17, 18, 19, 20, 21, 22] rfl rfl (by decide) hk1 hB [0, 80, 81, 82, 83, 84, 85, 86, 87, 88, 89, 90, 1, 2, 3, 4, 5, 6, 7, 8, 9, 10, 11, 12, 13, 14, 15, 16, 17, 18, 19, 20, 21, 22, 23, 24, 25, 26, 27, 28, 29, 30, 31, 32, 33, 34, 35, 36, 37, 38, 39, 40, 41, 42, 43, 44, 45, 46, 47, 48, 49, 50, 51, 52, 53, 54, 55, 56, 57, 58, 59, 60, 61, 62, 63, 64, 65, 66, 67, 68, 69, 70, 71, 72, 73, 74, 75, 76, 77, 78, 79] rfl
  have hD := D_addr (w1 := wFm aF aN aT aL aO aH aP aX ++ (wSt cI aN S ++ (wSt cI aT R ++ (wHi cS aH ah u1 ++ (wZs cI ah u2))))) hD rfl
  refine lv_aload_n hx hb dX6_takeOverTrial_11 rfl (lv_at hl 0 rfl) ?_
  refine va_get (D := (dC, dI)) (ci := 6) (v := .ref (aN 0)) (C := RX6) (T := TX6) (N := 7) hx hb hts hin6 hown hK hP 0 rfl rfl 0 (by decide) (hw_ hts 2 rfl) (fun _ h9 => h9) rfl dX6_takeOverTrial_12 ?_
  refine lv_aload_n hx hb dX6_takeOverTrial_15 rfl (lv_at hl 0 rfl) ?_
  refine va_get (D := (dC, dI)) (ci := 6) (v := .ref (aT 0)) (C := RX6) (T := TX6) (N := 7) hx hb hts hin6 hown hK hP 0 rfl rfl 1 (by decide) (hw_ hts 3 rfl) (fun _ h9 => h9) rfl dX6_takeOverTrial_16 ?_
  have hF := va_free (wc := wSt cI aN S ++ (wSt cI aT R)) hD hS hA [1, 2, 3, 4, 5, 6, 7, 8, 9, 10, 11, 12, 13, 14, 15, 16, 17, 18, 19, 20, 21, 22] rfl
  refine va_callv (va_runV (As := [.ref (aT 0)]) (rest := []) ⟨hx, hb, hml, hown, hts⟩ (met_X5_copyFrom l dC dI cI cZ cS aN aT S R H1.size) (cwV 1 hts gX6_takeOverTrial_X5_copyFrom rfl rfl rfl (by decide +kernel) ⟨Nat.le_of_ble_eq_true rfl, Nat.le_of_ble_eq_true rfl⟩) (pV (wc := wSt cI aN S ++ (wSt cI aT R)) (ci := 5) (q0 := 1) hK hP hD hN [1, 2, 3, 4, 5, 6, 7, 8, 9, 10, 11, 12, 13, 14, 15, 16, 17, 18, 19, 20, 21, 22] rfl (by decide) rfl rfl) rfl rfl hl.1 rfl (lv_room (Nat.le_of_ble_eq_true rfl)) dX6_takeOverTrial_19 ⟨Nat.zero_le _, Nat.zero_le _⟩) hS (fun q _ h => hF q h) hF (fun  u3 t H2 locs ht hvm hw hB hz1 hk1 hS => ?_)
  try dsimp only at hw hB
  rw [ht] at hB
  have hR := bd_n hw hR
  have hP := wrk2 (w2 := wFm aF aN aT aL aO aH aP aX ++ (wSt cI aN u3 ++ (wSt cI aT R ++ (wHi cS aH ah u1 ++ (wZs cI ah u2))))) (wr := wFm aF aN aT aL aO aH aP aX ++ (wHi cS aH ah u1 ++ (wZs cI ah u2))) hP hD [1, 2, 3, 4, 5, 6, 7, 8, 9, 10, 11, 12, 13, 14, 15, 16, 17, 18, 19, 20, 21, 22] [0, 23, 24, 25, 26, 27, 28, 29, 30, 31, 32, 33, 34, 35, 36, 37, 38, 39, 40, 41, 42, 43, 44, 45, 46, 47, 48, 49, 50, 51, 52, 53, 54, 55, 56, 57, 58, 59, 60, 61, 62, 63, 64, 65, 66, 67, 68, 69, 70, 71, 72, 73, 74, 75, 76, 77, 78, 79, 80, 81, 82, 83, 84, 85, 86, 87, 88, 89, 90] rfl rfl (by decide) hk1 hB [0, 69, 70, 71, 72, 73, 74, 75, 76, 77, 78, 79, 80, 81, 82, 83, 84, 85, 86, 87, 88, 89, 90, 1, 2, 3, 4, 5, 6, 7, 8, 9, 10, 11, 12, 13, 14, 15, 16, 17, 18, 19, 20, 21, 22, 23, 24, 25, 26, 27, 28, 29, 30, 31, 32, 33, 34, 35, 36, 37, 38, 39, 40, 41, 42, 43, 44, 45, 46, 47, 48, 49, 50, 51, 52, 53, 54, 55, 56, 57, 58, 59, 60, 61, 62, 63, 64, 65, 66, 67, 68] rfl
  have hD := D_addr (w1 := wFm aF aN aT aL aO aH aP aX ++ (wSt cI aN u3 ++ (wSt cI aT R ++ (wHi cS aH ah u1 ++ (wZs cI ah u2))))) hD rfl
  exact W.vret hx hb hr (fun t ht hW => ⟨⟨(u3, u1, u2), rfl, hR, P_at ht hP⟩, hS.F ht⟩) hS.2.2 dX6_takeOverTrial_22
abbrev rm_X6_canStand : Room := { frames := 5, cells := 0, slots := 0, locals := 122 }
abbrev q_X6_canStand (dC : Nat → ClassId) (dI : Nat → Nat → Nat) (cI cZ cS : ClassId) (aF aN aT aL aO aH : Nat → Nat) (ah : Nat → Nat → Nat) (aP aX : Nat → Nat) (R : Pic) (res : Int32 × Pic) (A : Nat → Prop) : Array Value → State → Outcome → State → Prop := va_Qi (fun (r : Int32) (u : Pic) => (r, u) = res ∧ narrow .boolean (.int r) = .int r) (fun u t => va_P (dC, dI) vwCl (wFm aF aN aT aL aO aH aP aX ++ (wSt cI aT R ++ (wLo cI aL u))) t.heap) A
set_option maxHeartbeats 4000000 in
set_option maxRecDepth 100000 in
theorem met_X6_canStand (l : Launch) (dC : Nat → ClassId) (dI : Nat → Nat → Nat) (cI cZ cS : ClassId) (aF aN aT aL aO aH : Nat → Nat) (ah : Nat → Nat → Nat) (aP aX : Nat → Nat) (R : Pic) (Y : Pic) (sz : Nat)  : Met l yX6_canStand wsX6_canStand rm_X6_canStand (va_Pc [.ref (aF 0), .ref (aT 0)] (pW (dC, dI) (tyS cI cZ cS) (wFm aF aN aT aL aO aH aP aX ++ (wSt cI aT R ++ (wLo cI aL Y))) sz)) (q_X6_canStand dC dI cI cZ cS aF aN aT aL aO aH ah aP aX R (f6_canStand R Y) (va_A (wFm aF aN aT aL aO aH aP aX ++ (wSt cI aT R ++ (wLo cI aL Y))) sz)) 0 0 (va_A (wFm aF aN aT aL aO aH aP aX ++ (wSt cI aT R ++ (wLo cI aL Y))) sz) := by
  refine Met.ofW (cc := cX6_canStand) (maxL := 2) (ret := (some .boolean)) (by decide) rfl ?_
  intro p e s m args below meth c s₁ B hml hv
  obtain ⟨rfl, hsz, hP, hK, hD0, hN⟩ := hv
  have hx := B.exec
  have hb := B.bytes
  have hr := B.returns
  have hts := atoms_spec (ws := wsX6_canStand) B.pre
  have hown : s.vm.findClass RX6 = some m.cls := findClass_of_methodNamed B.named
  have hlocks := B.notSynchronized
  subst hsz
  have hD := hD0.self (sz := s.heap.size)
  generalize hAe : va_A (wFm aF aN aT aL aO aH aP aX ++ (wSt cI aT R ++ (wLo cI aL Y))) s.heap.size = A at hD ⊢
  have hA : ∀ q : Nat, s.heap.size ≤ q → A q := fun q h => by rw [← hAe]; exact Or.inr h
  have hS : va_S A s.heap s.heap [] := va_S.rf
  have hP : va_P (dC, dI) vwCl (wFm aF aN aT aL aO aH aP aX ++ (wSt cI aT R ++ (wLo cI aL Y))) s.heap := hP
  generalize hR : f6_canStand R Y = res
  rw [f6_canStand] at hR
  have hin6 : ∀ w ∈ wsX60, w ∈ wsX6_canStand := by decide +kernel
  have hl := lv_entry ([.ref (aF 0), .ref (aT 0)]) (n := 2) (Nat.le_of_ble_eq_true rfl)
  rw [lg_entry_eq]
  generalize (lg_sl ([.ref (aF 0), .ref (aT 0)]) ++ List.replicate (2 - (lg_sl ([.ref (aF 0), .ref (aT 0)])).length) Slot.unset).toArray = ls at hl ⊢
  have hl : lv_has ls 2 [(0, .ref (aF 0)), (1, .ref (aT 0))] := hl
  refine lv_aload_n hx hb dX6_canStand_0 rfl (lv_at hl 1 rfl) ?_
  refine va_calli (va_runV (As := []) (rest := []) ⟨hx, hb, hml, hown, hts⟩ (met_X5_hasVetoedDish l dC dI cI cZ cS aT R s.heap.size) (cwV 0 hts gX6_canStand_X5_hasVetoedDish rfl rfl rfl (by decide +kernel) ⟨Nat.le_of_ble_eq_true rfl, Nat.le_of_ble_eq_true rfl⟩) (pV (wc := wSt cI aT R) (ci := 5) (q0 := 1) hK hP hD hN [1, 2, 3, 4, 5, 6, 7, 8, 9, 10, 11] rfl (by decide) rfl rfl) rfl rfl hl.1 rfl (lv_room (Nat.le_of_ble_eq_true rfl)) dX6_canStand_1 ⟨Nat.zero_le _, Nat.zero_le _⟩) hS (fun q _ h => a0_in hS hA q h) (a0_in hS hA) (fun r1 u t H1 locs ht hvm hw hB hz1 hk1 hS => ?_)
  obtain ⟨hw, nb2⟩ := hw
  have hR := bd_n hw hR
  have hP := rdk hP hk1
  refine lv_if_ne (tgt := 29) hx hb dX6_canStand_4 (by decide) (fun c_3 => ?_) (fun c_3 => ?_)
  · rw [if_neg c_3] at hR
    refine lv_iconst (v := (0 : Int32)) hx hb dX6_canStand_29 (by decide) ?_
    exact W.zret (v := (0 : Int32)) (ty := .boolean) hx hb hr rfl (fun t ht hW => ⟨⟨(0 : Int32), Y, rfl, ⟨hR, rfl⟩, P_at ht hP⟩, hS.F ht⟩) hS.2.2 dX6_canStand_30
  · rw [if_pos c_3] at hR
    refine lv_aload_n hx hb dX6_canStand_7 rfl (lv_at hl 1 rfl) ?_
    refine va_calli (va_runV (As := []) (rest := []) ⟨hx, hb, hml, hown, hts⟩ (met_X5_isAboveBudget l dC dI cI cZ cS aT R H1.size) (cwV 0 hts gX6_canStand_X5_isAboveBudget rfl rfl rfl (by decide +kernel) ⟨Nat.le_of_ble_eq_true rfl, Nat.le_of_ble_eq_true rfl⟩) (pV (wc := wSt cI aT R) (ci := 5) (q0 := 1) hK hP hD hN [1, 2, 3, 4, 5, 6, 7, 8, 9, 10, 11] rfl (by decide) rfl rfl) rfl rfl hl.1 rfl (lv_room (Nat.le_of_ble_eq_true rfl)) dX6_canStand_8 ⟨Nat.zero_le _, Nat.zero_le _⟩) hS (fun q _ h => a0_in hS hA q h) (a0_in hS hA) (fun r4 u t H2 locs ht hvm hw hB hz1 hk1 hS => ?_)
    obtain ⟨hw, nb5⟩ := hw
    have hR := bd_n hw hR
    have hP := rdk hP hk1
    refine lv_if_ne (tgt := 29) hx hb dX6_canStand_11 (by decide) (fun c_6 => ?_) (fun c_6 => ?_)
    · rw [if_neg c_6] at hR
      refine lv_iconst (v := (0 : Int32)) hx hb dX6_canStand_29 (by decide) ?_
      exact W.zret (v := (0 : Int32)) (ty := .boolean) hx hb hr rfl (fun t ht hW => ⟨⟨(0 : Int32), Y, rfl, ⟨hR, rfl⟩, P_at ht hP⟩, hS.F ht⟩) hS.2.2 dX6_canStand_30
    · rw [if_pos c_6] at hR
      refine lv_aload_n hx hb dX6_canStand_14 rfl (lv_at hl 0 rfl) ?_
      refine va_get (D := (dC, dI)) (ci := 6) (v := .ref (aL 0)) (C := RX6) (T := TX6) (N := 7) hx hb hts hin6 hown hK hP 0 rfl rfl 2 (by decide) (hw_ hts 1 rfl) (fun _ h9 => h9) rfl dX6_canStand_15 ?_
      refine lv_aload_n hx hb dX6_canStand_18 rfl (lv_at hl 1 rfl) ?_
      have hF := va_free (wc := wLo cI aL Y ++ (wSt cI aT R)) hD hS hA [12, 13, 14, 1, 2, 3, 4, 5, 6, 7, 8, 9, 10, 11] rfl
      refine va_calli (va_runV (As := [.ref (aT 0)]) (rest := []) ⟨hx, hb, hml, hown, hts⟩ (met_X1_areSound l dC dI cI cZ cS aL aT Y R H2.size) (cwV 1 hts gX6_canStand_X1_areSound rfl rfl rfl (by decide +kernel) ⟨Nat.le_of_ble_eq_true rfl, Nat.le_of_ble_eq_true rfl⟩) (pV (wc := wLo cI aL Y ++ (wSt cI aT R)) (ci := 1) (q0 := 12) hK hP hD hN [12, 13, 14, 1, 2, 3, 4, 5, 6, 7, 8, 9, 10, 11] rfl (by decide) rfl rfl) rfl rfl hl.1 rfl (lv_room (Nat.le_of_ble_eq_true rfl)) dX6_canStand_19 ⟨Nat.zero_le _, Nat.zero_le _⟩) hS (fun q _ h => hF q h) hF (fun r7 u8 t H3 locs ht hvm hw hB hz1 hk1 hS => ?_)
      obtain ⟨hw, nb9⟩ := hw
      try dsimp only at hw hB
      rw [ht] at hB
      have hR := bd2_n hw hR
      have hP := wrk2 (w2 := wFm aF aN aT aL aO aH aP aX ++ (wSt cI aT R ++ (wLo cI aL u8))) (wr := wFm aF aN aT aL aO aH aP aX) hP hD [12, 13, 14, 1, 2, 3, 4, 5, 6, 7, 8, 9, 10, 11] [0] rfl rfl (by decide) hk1 hB [0, 4, 5, 6, 7, 8, 9, 10, 11, 12, 13, 14, 1, 2, 3] rfl
      have hD := D_addr (w1 := wFm aF aN aT aL aO aH aP aX ++ (wSt cI aT R ++ (wLo cI aL u8))) hD rfl
      refine lv_if_eq (tgt := 29) hx hb dX6_canStand_22 (by decide) (fun c_10 => ?_) (fun c_10 => ?_)
      · rw [if_pos c_10] at hR
        refine lv_iconst (v := (0 : Int32)) hx hb dX6_canStand_29 (by decide) ?_
        exact W.zret (v := (0 : Int32)) (ty := .boolean) hx hb hr rfl (fun t ht hW => ⟨⟨(0 : Int32), u8, rfl, ⟨hR, rfl⟩, P_at ht hP⟩, hS.F ht⟩) hS.2.2 dX6_canStand_30
      · rw [if_neg c_10] at hR
        refine lv_iconst (v := (1 : Int32)) hx hb dX6_canStand_25 (by decide) ?_
        refine lv_goto (tgt := 30) hx hb dX6_canStand_26 (by decide) ?_
        exact W.zret (v := (1 : Int32)) (ty := .boolean) hx hb hr rfl (fun t ht hW => ⟨⟨(1 : Int32), u8, rfl, ⟨hR, rfl⟩, P_at ht hP⟩, hS.F ht⟩) hS.2.2 dX6_canStand_30
abbrev rm_X6_servesIfItCan : Room := { frames := 5, cells := 0, slots := 0, locals := 126 }
abbrev q_X6_servesIfItCan (dC : Nat → ClassId) (dI : Nat → Nat → Nat) (cI cZ cS : ClassId) (aF aN aT aL aO aH : Nat → Nat) (ah : Nat → Nat → Nat) (aP aX : Nat → Nat)  (res : Int32 × Pic × Pic) (A : Nat → Prop) : Array Value → State → Outcome → State → Prop := va_Qi (fun (r : Int32) (u : Pic × Pic) => (r, u) = res ∧ narrow .boolean (.int r) = .int r) (fun u t => va_P (dC, dI) vwCl (wFm aF aN aT aL aO aH aP aX ++ (wSt cI aN u.1 ++ (wLo cI aL u.2 ++ (wOu aO aN aL)))) t.heap) A
set_option maxHeartbeats 4000000 in
set_option maxRecDepth 100000 in
theorem met_X6_servesIfItCan (l : Launch) (dC : Nat → ClassId) (dI : Nat → Nat → Nat) (cI cZ cS : ClassId) (aF aN aT aL aO aH : Nat → Nat) (ah : Nat → Nat → Nat) (aP aX : Nat → Nat) (S : Pic) (Y : Pic) (sz : Nat) (p1 : Int32) (p2 : Int32) : Met l yX6_servesIfItCan wsX6_servesIfItCan rm_X6_servesIfItCan (va_Pc [.ref (aF 0), .int p1, .int p2] (pW (dC, dI) (tyS cI cZ cS) (wFm aF aN aT aL aO aH aP aX ++ (wSt cI aN S ++ (wLo cI aL Y ++ (wOu aO aN aL)))) sz)) (q_X6_servesIfItCan dC dI cI cZ cS aF aN aT aL aO aH ah aP aX (f6_servesIfItCan S Y p1 p2) (va_A (wFm aF aN aT aL aO aH aP aX ++ (wSt cI aN S ++ (wLo cI aL Y ++ (wOu aO aN aL)))) sz)) 0 0 (va_A (wFm aF aN aT aL aO aH aP aX ++ (wSt cI aN S ++ (wLo cI aL Y ++ (wOu aO aN aL)))) sz) := by
  refine Met.ofW (cc := cX6_servesIfItCan) (maxL := 4) (ret := (some .boolean)) (by decide) rfl ?_
  intro p e s m args below meth c s₁ B hml hv
  obtain ⟨rfl, hsz, hP, hK, hD0, hN⟩ := hv
  have hx := B.exec
  have hb := B.bytes
  have hr := B.returns
  have hts := atoms_spec (ws := wsX6_servesIfItCan) B.pre
  have hown : s.vm.findClass RX6 = some m.cls := findClass_of_methodNamed B.named
  have hlocks := B.notSynchronized
  subst hsz
  have hD := hD0.self (sz := s.heap.size)
  generalize hAe : va_A (wFm aF aN aT aL aO aH aP aX ++ (wSt cI aN S ++ (wLo cI aL Y ++ (wOu aO aN aL)))) s.heap.size = A at hD ⊢
  have hA : ∀ q : Nat, s.heap.size ≤ q → A q := fun q h => by rw [← hAe]; exact Or.inr h
  have hS : va_S A s.heap s.heap [] := va_S.rf
  have hP : va_P (dC, dI) vwCl (wFm aF aN aT aL aO aH aP aX ++ (wSt cI aN S ++ (wLo cI aL Y ++ (wOu aO aN aL)))) s.heap := hP
  generalize hR : f6_servesIfItCan S Y p1 p2 = res
  rw [f6_servesIfItCan] at hR
  have hin6 : ∀ w ∈ wsX60, w ∈ wsX6_servesIfItCan := by decide +kernel
  have hin5 : ∀ w ∈ wsX50, w ∈ wsX6_servesIfItCan := by decide +kernel
  have hl := lv_entry ([.ref (aF 0), .int p1, .int p2]) (n := 4) (Nat.le_of_ble_eq_true rfl)
  rw [lg_entry_eq]
  generalize (lg_sl ([.ref (aF 0), .int p1, .int p2]) ++ List.replicate (4 - (lg_sl ([.ref (aF 0), .int p1, .int p2])).length) Slot.unset).toArray = ls at hl ⊢
  have hl : lv_has ls 4 [(0, .ref (aF 0)), (1, .int p1), (2, .int p2)] := hl
  refine lv_aload_n hx hb dX6_servesIfItCan_0 rfl (lv_at hl 0 rfl) ?_
  refine va_get (D := (dC, dI)) (ci := 6) (v := .ref (aN 0)) (C := RX6) (T := TX6) (N := 7) hx hb hts hin6 hown hK hP 0 rfl rfl 0 (by decide) (hw_ hts 1 rfl) (fun _ h9 => h9) rfl dX6_servesIfItCan_1 ?_
  refine lv_iload_n hx hb dX6_servesIfItCan_4 rfl (lv_at hl 2 rfl) ?_
  refine va_calli (va_runV (As := [.int p2]) (rest := []) ⟨hx, hb, hml, hown, hts⟩ (met_X5_hasDish l dC dI cI cZ cS aN S s.heap.size p2) (cwV 1 hts gX6_servesIfItCan_X5_hasDish rfl rfl rfl (by decide +kernel) ⟨Nat.le_of_ble_eq_true rfl, Nat.le_of_ble_eq_true rfl⟩) (pV (wc := wSt cI aN S) (ci := 5) (q0 := 1) hK hP hD hN [1, 2, 3, 4, 5, 6, 7, 8, 9, 10, 11] rfl (by decide) rfl rfl) rfl rfl hl.1 rfl (lv_room (Nat.le_of_ble_eq_true rfl)) dX6_servesIfItCan_5 ⟨Nat.zero_le _, Nat.zero_le _⟩) hS (fun q _ h => a0_in hS hA q h) (a0_in hS hA) (fun r1 u t H1 locs ht hvm hw hB hz1 hk1 hS => ?_)
  obtain ⟨hw, nb2⟩ := hw
  subst hw
  have hP := rdk hP hk1
  refine lv_if_ne (tgt := 13) hx hb dX6_servesIfItCan_8 (by decide) (fun c_3 => ?_) (fun c_3 => ?_)
  · rw [if_neg c_3] at hR
    refine lv_aload_n hx hb dX6_servesIfItCan_13 rfl (lv_at hl 0 rfl) ?_
    refine va_get (D := (dC, dI)) (ci := 6) (v := .ref (aN 0)) (C := RX6) (T := TX6) (N := 7) hx hb hts hin6 hown hK hP 0 rfl rfl 0 (by decide) (hw_ hts 1 rfl) (fun _ h9 => h9) rfl dX6_servesIfItCan_14 ?_
    refine va_get (D := (dC, dI)) (ci := 5) (v := .ref (aN 1)) (C := RX5) (T := TX5) (N := 12) hx hb hts hin5 hown hK hP 1 rfl rfl 1 (by decide) (hw_ hts 2 rfl) (fun _ h9 => h9) rfl dX6_servesIfItCan_17 ?_
    refine lv_iload_n hx hb dX6_servesIfItCan_20 rfl (lv_at hl 2 rfl) ?_
    refine va_calli (va_runS (As := [.ref (aN 1), .int p2]) (rest := []) ⟨hx, hb, hml, hown, hts⟩ (met_X6_at l dC dI cI cZ cS (aN 1) 12 (by decide) (S 1) H1.size p2) (va_cwS 2 hts gX6_servesIfItCan_X6_at rfl rfl rfl (by decide +kernel) ⟨Nat.le_of_ble_eq_true rfl, Nat.le_of_ble_eq_true rfl⟩) (pS (wc := [((aN 1), .inl (cI, 12, .inl (S 1)))]) hK hP hD hN [2] rfl (by decide)) rfl rfl hl.1 rfl (lv_room (Nat.le_of_ble_eq_true rfl)) dX6_servesIfItCan_21 ⟨Nat.zero_le _, Nat.zero_le _⟩) hS (fun q _ h => a0_in hS hA q h) (a0_in hS hA) (fun r4 u t H2 locs ht hvm hw hB hz1 hk1 hS => ?_)
    subst hw
    have hP := rdk hP hk1
    refine lv_topi (fun v5 hv5 => ?_)
    have hR := bd_n hv5 hR
    refine lv_istore_n (lv' := [(3, .int v5), (0, .ref (aF 0)), (1, .int p1), (2, .int p2)]) hx hb dX6_servesIfItCan_24 rfl hl (by decide) rfl (fun ls hl => ?_)
    refine lv_aload_n hx hb dX6_servesIfItCan_25 rfl (lv_at hl 1 rfl) ?_
    refine va_get (D := (dC, dI)) (ci := 6) (v := .ref (aO 0)) (C := RX6) (T := TX6) (N := 7) hx hb hts hin6 hown hK hP 0 rfl rfl 3 (by decide) (hw_ hts 3 rfl) (fun _ h9 => h9) rfl dX6_servesIfItCan_26 ?_
    refine lv_iload_n hx hb dX6_servesIfItCan_29 rfl (lv_at hl 2 rfl) ?_
    refine lv_iload_n hx hb dX6_servesIfItCan_30 rfl (lv_at hl 0 rfl) ?_
    refine lv_iload_n hx hb dX6_servesIfItCan_31 rfl (lv_at hl 3 rfl) ?_
    have hF := va_free (wc := wOu aO aN aL ++ (wLo cI aL Y ++ (wSt cI aN S))) hD hS hA [15, 12, 13, 14, 1, 2, 3, 4, 5, 6, 7, 8, 9, 10, 11] rfl
    refine va_calli (va_runV (As := [.int p1, .int v5, .int p2]) (rest := []) ⟨hx, hb, hml, hown, hts⟩ (met_X2_reasonAgainst l dC dI cI cZ cS aO aL aN Y S H2.size p1 v5 p2) (cwV 3 hts gX6_servesIfItCan_X2_reasonAgainst rfl rfl rfl (by decide +kernel) ⟨Nat.le_of_ble_eq_true rfl, Nat.le_of_ble_eq_true rfl⟩) (pV (wc := wOu aO aN aL ++ (wLo cI aL Y ++ (wSt cI aN S))) (ci := 2) (q0 := 15) hK hP hD hN [15, 12, 13, 14, 1, 2, 3, 4, 5, 6, 7, 8, 9, 10, 11] rfl (by decide) rfl rfl) rfl rfl hl.1 rfl (lv_room (Nat.le_of_ble_eq_true rfl)) dX6_servesIfItCan_32 ⟨Nat.zero_le _, Nat.zero_le _⟩) hS (fun q _ h => hF q h) hF (fun r6 u t H3 locs ht hvm hw hB hz1 hk1 hS => ?_)
    obtain ⟨u7, u8⟩ := u
    try dsimp only at hw hB
    rw [ht] at hB
    have hR := bd3_n hw hR
    have hP := wrk2 (w2 := wFm aF aN aT aL aO aH aP aX ++ (wSt cI aN u8 ++ (wLo cI aL u7 ++ (wOu aO aN aL)))) (wr := wFm aF aN aT aL aO aH aP aX) hP hD [15, 12, 13, 14, 1, 2, 3, 4, 5, 6, 7, 8, 9, 10, 11] [0] rfl rfl (by decide) hk1 hB [0, 5, 6, 7, 8, 9, 10, 11, 12, 13, 14, 15, 2, 3, 4, 1] rfl
    have hD := D_addr (w1 := wFm aF aN aT aL aO aH aP aX ++ (wSt cI aN u8 ++ (wLo cI aL u7 ++ (wOu aO aN aL)))) hD rfl
    refine lv_if_eq (tgt := 40) hx hb dX6_servesIfItCan_35 (by decide) (fun c_9 => ?_) (fun c_9 => ?_)
    · rw [if_pos c_9] at hR
      refine lv_aload_n hx hb dX6_servesIfItCan_40 rfl (lv_at hl 1 rfl) ?_
      refine va_get (D := (dC, dI)) (ci := 6) (v := .ref (aN 0)) (C := RX6) (T := TX6) (N := 7) hx hb hts hin6 hown hK hP 0 rfl rfl 0 (by decide) (hw_ hts 1 rfl) (fun _ h9 => h9) rfl dX6_servesIfItCan_41 ?_
      refine va_get (D := (dC, dI)) (ci := 5) (v := .ref (aN 11)) (C := RX5) (T := TX5) (N := 12) hx hb hts hin5 hown hK hP 1 rfl rfl 11 (by decide) (hw_ hts 4 rfl) (fun _ h9 => h9) rfl dX6_servesIfItCan_44 ?_
      refine lv_iload_n hx hb dX6_servesIfItCan_47 rfl (lv_at hl 2 rfl) ?_
      refine lv_iload_n hx hb dX6_servesIfItCan_48 rfl (lv_at hl 0 rfl) ?_
      refine va_calli (va_runS (As := [.int p1, .int v5]) (rest := [.ref (aN 11)]) ⟨hx, hb, hml, hown, hts⟩ (met_X6_cellOf l dC dI cI cZ cS H3.size p1 v5) (va_cwS 2 hts gX6_servesIfItCan_X6_cellOf rfl rfl rfl (by decide +kernel) ⟨Nat.le_of_ble_eq_true rfl, Nat.le_of_ble_eq_true rfl⟩) (pS (wc := []) hK hP hD hN [] rfl (by decide)) rfl rfl hl.1 rfl (lv_room (Nat.le_of_ble_eq_true rfl)) dX6_servesIfItCan_49 ⟨Nat.zero_le _, Nat.zero_le _⟩) hS (fun q _ h => a0_in hS hA q h) (a0_in hS hA) (fun r10 u t H4 locs ht hvm hw hB hz1 hk1 hS => ?_)
      subst hw
      have hP := rdk hP hk1
      refine lv_iload_n hx hb dX6_servesIfItCan_52 rfl (lv_at hl 3 rfl) ?_
      have hF := va_free (wc := [((aN 11), .inl (cI, 84, .inl (u8 11)))]) hD hS hA [11] rfl
      refine va_callv (va_runS (As := [.ref (aN 11), .int (f6_cellOf p1 v5), .int p2]) (rest := []) ⟨hx, hb, hml, hown, hts⟩ (met_X6_put l dC dI cI cZ cS (aN 11) 84 (by decide) (u8 11) H4.size (f6_cellOf p1 v5) p2) (va_cwS 3 hts gX6_servesIfItCan_X6_put rfl rfl rfl (by decide +kernel) ⟨Nat.le_of_ble_eq_true rfl, Nat.le_of_ble_eq_true rfl⟩) (pS (wc := [((aN 11), .inl (cI, 84, .inl (u8 11)))]) hK hP hD hN [11] rfl (by decide)) rfl rfl hl.1 rfl (lv_room (Nat.le_of_ble_eq_true rfl)) dX6_servesIfItCan_53 ⟨Nat.zero_le _, Nat.zero_le _⟩) hS (fun q _ h => hF q h) hF (fun  u11 t H5 locs ht hvm hw hB hz1 hk1 hS => ?_)
      try dsimp only at hw hB
      rw [ht] at hB
      subst hw
      have hP := wrk (w2 := wFm aF aN aT aL aO aH aP aX ++ (wSt cI aN (pset u8 11 (f6_put 84 (u8 11) (f6_cellOf p1 v5) p2)) ++ (wLo cI aL u7 ++ (wOu aO aN aL)))) hP hD [11] rfl (by decide) hk1 hB rfl rfl
      have hD := D_addr (w1 := wFm aF aN aT aL aO aH aP aX ++ (wSt cI aN (pset u8 11 (f6_put 84 (u8 11) (f6_cellOf p1 v5) p2)) ++ (wLo cI aL u7 ++ (wOu aO aN aL)))) hD rfl
      obtain ⟨Sb12, hSb12⟩ : ∃ z : Pic, z = (pset u8 11 (f6_put 84 (u8 11) (f6_cellOf p1 v5) p2)) := ⟨_, rfl⟩
      rw [← hSb12] at hP hD
      have hR := bd_n hSb12 hR
      refine lv_iconst (v := (1 : Int32)) hx hb dX6_servesIfItCan_56 (by decide) ?_
      exact W.zret (v := (1 : Int32)) (ty := .boolean) hx hb hr rfl (fun t ht hW => ⟨⟨(1 : Int32), (Sb12, u7), rfl, ⟨hR, rfl⟩, P_at ht hP⟩, hS.F ht⟩) hS.2.2 dX6_servesIfItCan_57
    · rw [if_neg c_9] at hR
      refine lv_iconst (v := (0 : Int32)) hx hb dX6_servesIfItCan_38 (by decide) ?_
      exact W.zret (v := (0 : Int32)) (ty := .boolean) hx hb hr rfl (fun t ht hW => ⟨⟨(0 : Int32), (u8, u7), rfl, ⟨hR, rfl⟩, P_at ht hP⟩, hS.F ht⟩) hS.2.2 dX6_servesIfItCan_39
  · rw [if_pos c_3] at hR
    refine lv_iconst (v := (0 : Int32)) hx hb dX6_servesIfItCan_11 (by decide) ?_
    exact W.zret (v := (0 : Int32)) (ty := .boolean) hx hb hr rfl (fun t ht hW => ⟨⟨(0 : Int32), (S, Y), rfl, ⟨hR, rfl⟩, P_at ht hP⟩, hS.F ht⟩) hS.2.2 dX6_servesIfItCan_12
