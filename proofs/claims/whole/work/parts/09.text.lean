abbrev rm_X3_placeAfterDay : Room := { frames := 0, cells := 0, slots := 0, locals := 0 }
abbrev q_X3_placeAfterDay (dC : Nat → ClassId) (dI : Nat → Nat → Nat) (cI cZ cS : ClassId)   (res : Int32) (A : Nat → Prop) : Array Value → State → Outcome → State → Prop := va_Qi (fun (r : Int32) (u : Unit) => r = res) (fun _ _ => True) A
set_option maxHeartbeats 4000000 in
set_option maxRecDepth 100000 in
theorem met_X3_placeAfterDay (l : Launch) (dC : Nat → ClassId) (dI : Nat → Nat → Nat) (cI cZ cS : ClassId)  (sz : Nat) (p1 : Int32) : Met l yX3_placeAfterDay wsX3_placeAfterDay rm_X3_placeAfterDay (va_Pc [.int p1] (pW (dC, dI) (tyS cI cZ cS) ([]) sz)) (q_X3_placeAfterDay dC dI cI cZ cS (f3_placeAfterDay p1) (a0 sz)) 0 0 (a0 sz) := by
  refine Met.ofW (cc := cX3_placeAfterDay) (maxL := 1) (ret := (some .int)) (by decide) rfl ?_
  intro p e s m args below meth c s₁ B hml hv
  obtain ⟨rfl, hsz, hP, hK, hD0, hN⟩ := hv
  have hx := B.exec
  have hb := B.bytes
  have hr := B.returns
  have hts := atoms_spec (ws := wsX3_placeAfterDay) B.pre
  have hown : s.vm.findClass RX3 = some m.cls := findClass_of_methodNamed B.named
  have hlocks := B.notSynchronized
  subst hsz
  have hD := hD0
  have hA : ∀ q : Nat, s.heap.size ≤ q → a0 s.heap.size q := fun q h => Or.inr h
  have hS : va_S (a0 s.heap.size) s.heap s.heap [] := va_S.rf
  have hP : va_P (dC, dI) vwCl ([]) s.heap := hP
  generalize hR : f3_placeAfterDay p1 = res
  rw [f3_placeAfterDay] at hR
  have hl := lv_entry ([.int p1]) (n := 1) (Nat.le_of_ble_eq_true rfl)
  rw [lg_entry_eq]
  generalize (lg_sl ([.int p1]) ++ List.replicate (1 - (lg_sl ([.int p1])).length) Slot.unset).toArray = ls at hl ⊢
  have hl : lv_has ls 1 [(0, .int p1)] := hl
  refine lv_iload_n hx hb dX3_placeAfterDay_0 rfl (lv_at hl 0 rfl) ?_
  refine lv_bipush (v := (61 : Int32)) hx hb dX3_placeAfterDay_1 (by decide) ?_
  refine lv_icmp_ne (tgt := 10) hx hb dX3_placeAfterDay_3 (by decide) (fun c_1 => ?_) (fun c_1 => ?_)
  · rw [if_neg c_1] at hR
    refine lv_iconst (v := (-1 : Int32)) hx hb dX3_placeAfterDay_10 (by decide) ?_
    exact W.iret (v := (-1 : Int32)) hx hb hr (fun t ht hW => ⟨⟨(-1 : Int32), (), rfl, hR, trivial⟩, hS.F ht⟩) hS.2.2 dX3_placeAfterDay_11
  · rw [if_pos c_1] at hR
    refine lv_iconst (v := (5 : Int32)) hx hb dX3_placeAfterDay_6 (by decide) ?_
    refine lv_goto (tgt := 11) hx hb dX3_placeAfterDay_7 (by decide) ?_
    exact W.iret (v := (5 : Int32)) hx hb hr (fun t ht hW => ⟨⟨(5 : Int32), (), rfl, hR, trivial⟩, hS.F ht⟩) hS.2.2 dX3_placeAfterDay_11
abbrev rm_X3_placeAfterFirstDigit : Room := { frames := 1, cells := 0, slots := 0, locals := 22 }
abbrev q_X3_placeAfterFirstDigit (dC : Nat → ClassId) (dI : Nat → Nat → Nat) (cI cZ cS : ClassId)   (res : Int32) (A : Nat → Prop) : Array Value → State → Outcome → State → Prop := va_Qi (fun (r : Int32) (u : Unit) => r = res) (fun _ _ => True) A
set_option maxHeartbeats 4000000 in
set_option maxRecDepth 100000 in
theorem met_X3_placeAfterFirstDigit (l : Launch) (dC : Nat → ClassId) (dI : Nat → Nat → Nat) (cI cZ cS : ClassId)  (sz : Nat) (p1 : Int32) : Met l yX3_placeAfterFirstDigit wsX3_placeAfterFirstDigit rm_X3_placeAfterFirstDigit (va_Pc [.int p1] (pW (dC, dI) (tyS cI cZ cS) ([]) sz)) (q_X3_placeAfterFirstDigit dC dI cI cZ cS (f3_placeAfterFirstDigit p1) (a0 sz)) 0 0 (a0 sz) := by
  refine Met.ofW (cc := cX3_placeAfterFirstDigit) (maxL := 1) (ret := (some .int)) (by decide) rfl ?_
  intro p e s m args below meth c s₁ B hml hv
  obtain ⟨rfl, hsz, hP, hK, hD0, hN⟩ := hv
  have hx := B.exec
  have hb := B.bytes
  have hr := B.returns
  have hts := atoms_spec (ws := wsX3_placeAfterFirstDigit) B.pre
  have hown : s.vm.findClass RX3 = some m.cls := findClass_of_methodNamed B.named
  have hlocks := B.notSynchronized
  subst hsz
  have hD := hD0
  have hA : ∀ q : Nat, s.heap.size ≤ q → a0 s.heap.size q := fun q h => Or.inr h
  have hS : va_S (a0 s.heap.size) s.heap s.heap [] := va_S.rf
  have hP : va_P (dC, dI) vwCl ([]) s.heap := hP
  generalize hR : f3_placeAfterFirstDigit p1 = res
  rw [f3_placeAfterFirstDigit] at hR
  have hl := lv_entry ([.int p1]) (n := 1) (Nat.le_of_ble_eq_true rfl)
  rw [lg_entry_eq]
  generalize (lg_sl ([.int p1]) ++ List.replicate (1 - (lg_sl ([.int p1])).length) Slot.unset).toArray = ls at hl ⊢
  have hl : lv_has ls 1 [(0, .int p1)] := hl
  refine lv_iload_n hx hb dX3_placeAfterFirstDigit_0 rfl (lv_at hl 0 rfl) ?_
  refine lv_bipush (v := (49 : Int32)) hx hb dX3_placeAfterFirstDigit_1 (by decide) ?_
  refine lv_icmp_ne (tgt := 8) hx hb dX3_placeAfterFirstDigit_3 (by decide) (fun c_1 => ?_) (fun c_1 => ?_)
  · rw [if_neg c_1] at hR
    refine lv_iload_n hx hb dX3_placeAfterFirstDigit_8 rfl (lv_at hl 0 rfl) ?_
    refine lv_bipush (v := (50 : Int32)) hx hb dX3_placeAfterFirstDigit_9 (by decide) ?_
    refine lv_icmp_ne (tgt := 16) hx hb dX3_placeAfterFirstDigit_11 (by decide) (fun c_2 => ?_) (fun c_2 => ?_)
    · rw [if_neg c_2] at hR
      refine lv_iload_n hx hb dX3_placeAfterFirstDigit_16 rfl (lv_at hl 0 rfl) ?_
      refine lv_bipush (v := (48 : Int32)) hx hb dX3_placeAfterFirstDigit_17 (by decide) ?_
      refine lv_bipush (v := (57 : Int32)) hx hb dX3_placeAfterFirstDigit_19 (by decide) ?_
      refine va_calli (va_runSN (As := [.int p1, .int (48 : Int32), .int (57 : Int32)]) (rest := []) ⟨hx, hb, hml, hown, hts⟩ (met_X6_isWithin l dC dI cI cZ cS s.heap.size p1 (48 : Int32) (57 : Int32)) ⟨va_cnB 3 hts ggX3_placeAfterFirstDigit_X6_isWithin rfl rfl rfl (hN_4 hN) (hw_ hts 2 rfl) (by decide +kernel) ⟨Nat.le_of_ble_eq_true rfl, Nat.le_of_ble_eq_true rfl⟩, (hw_ hts 1 rfl), trivial⟩ (pS (wc := []) hK hP hD hN [] rfl (by decide)) rfl rfl hl.1 rfl (lv_room (Nat.le_of_ble_eq_true rfl)) dX3_placeAfterFirstDigit_21 ⟨Nat.zero_le _, Nat.zero_le _⟩) hS (fun q _ h => a0_in hS hA q h) (a0_in hS hA) (fun r3 u t H1 locs ht hvm hw hB hz1 hk1 hS => ?_)
      obtain ⟨hw, nb4⟩ := hw
      subst hw
      have hP := rdk hP hk1
      refine lv_if_eq (tgt := 31) hx hb dX3_placeAfterFirstDigit_24 (by decide) (fun c_5 => ?_) (fun c_5 => ?_)
      · rw [if_pos c_5] at hR
        refine lv_iconst (v := (-1 : Int32)) hx hb dX3_placeAfterFirstDigit_31 (by decide) ?_
        exact W.iret (v := (-1 : Int32)) hx hb hr (fun t ht hW => ⟨⟨(-1 : Int32), (), rfl, hR, trivial⟩, hS.F ht⟩) hS.2.2 dX3_placeAfterFirstDigit_32
      · rw [if_neg c_5] at hR
        refine lv_iconst (v := (4 : Int32)) hx hb dX3_placeAfterFirstDigit_27 (by decide) ?_
        refine lv_goto (tgt := 32) hx hb dX3_placeAfterFirstDigit_28 (by decide) ?_
        exact W.iret (v := (4 : Int32)) hx hb hr (fun t ht hW => ⟨⟨(4 : Int32), (), rfl, hR, trivial⟩, hS.F ht⟩) hS.2.2 dX3_placeAfterFirstDigit_32
    · rw [if_pos c_2] at hR
      refine lv_iconst (v := (3 : Int32)) hx hb dX3_placeAfterFirstDigit_14 (by decide) ?_
      exact W.iret (v := (3 : Int32)) hx hb hr (fun t ht hW => ⟨⟨(3 : Int32), (), rfl, hR, trivial⟩, hS.F ht⟩) hS.2.2 dX3_placeAfterFirstDigit_15
  · rw [if_pos c_1] at hR
    refine lv_iconst (v := (2 : Int32)) hx hb dX3_placeAfterFirstDigit_6 (by decide) ?_
    exact W.iret (v := (2 : Int32)) hx hb hr (fun t ht hW => ⟨⟨(2 : Int32), (), rfl, hR, trivial⟩, hS.F ht⟩) hS.2.2 dX3_placeAfterFirstDigit_7
abbrev rm_X3_placeAfter : Room := { frames := 2, cells := 0, slots := 0, locals := 42 }
abbrev q_X3_placeAfter (dC : Nat → ClassId) (dI : Nat → Nat → Nat) (cI cZ cS : ClassId)   (res : Int32) (A : Nat → Prop) : Array Value → State → Outcome → State → Prop := va_Qi (fun (r : Int32) (u : Unit) => r = res) (fun _ _ => True) A
set_option maxHeartbeats 4000000 in
set_option maxRecDepth 100000 in
theorem met_X3_placeAfter (l : Launch) (dC : Nat → ClassId) (dI : Nat → Nat → Nat) (cI cZ cS : ClassId)  (sz : Nat) (p1 : Int32) (p2 : Int32) : Met l yX3_placeAfter wsX3_placeAfter rm_X3_placeAfter (va_Pc [.int p1, .int p2] (pW (dC, dI) (tyS cI cZ cS) ([]) sz)) (q_X3_placeAfter dC dI cI cZ cS (f3_placeAfter p1 p2) (a0 sz)) 0 0 (a0 sz) := by
  refine Met.ofW (cc := cX3_placeAfter) (maxL := 2) (ret := (some .int)) (by decide) rfl ?_
  intro p e s m args below meth c s₁ B hml hv
  obtain ⟨rfl, hsz, hP, hK, hD0, hN⟩ := hv
  have hx := B.exec
  have hb := B.bytes
  have hr := B.returns
  have hts := atoms_spec (ws := wsX3_placeAfter) B.pre
  have hown : s.vm.findClass RX3 = some m.cls := findClass_of_methodNamed B.named
  have hlocks := B.notSynchronized
  subst hsz
  have hD := hD0
  have hA : ∀ q : Nat, s.heap.size ≤ q → a0 s.heap.size q := fun q h => Or.inr h
  have hS : va_S (a0 s.heap.size) s.heap s.heap [] := va_S.rf
  have hP : va_P (dC, dI) vwCl ([]) s.heap := hP
  generalize hR : f3_placeAfter p1 p2 = res
  rw [f3_placeAfter] at hR
  have hl := lv_entry ([.int p1, .int p2]) (n := 2) (Nat.le_of_ble_eq_true rfl)
  rw [lg_entry_eq]
  generalize (lg_sl ([.int p1, .int p2]) ++ List.replicate (2 - (lg_sl ([.int p1, .int p2])).length) Slot.unset).toArray = ls at hl ⊢
  have hl : lv_has ls 2 [(0, .int p1), (1, .int p2)] := hl
  refine lv_iload_n hx hb dX3_placeAfter_0 rfl (lv_at hl 0 rfl) ?_
  by_cases c_1 : p1 = 0
  · rw [if_pos c_1] at hR
    refine lv_tableIn (tgt := 44) hx hb dX3_placeAfter_1 (by rw [c_1]; decide) (by rw [c_1]; decide) (by rw [c_1]; rfl) (by decide) ?_
    refine lv_iload_n hx hb dX3_placeAfter_44 rfl (lv_at hl 1 rfl) ?_
    refine lv_bipush (v := (100 : Int32)) hx hb dX3_placeAfter_45 (by decide) ?_
    refine lv_icmp_ne (tgt := 54) hx hb dX3_placeAfter_47 (by decide) (fun c_2 => ?_) (fun c_2 => ?_)
    · rw [if_neg c_2] at hR
      refine lv_iconst (v := (-1 : Int32)) hx hb dX3_placeAfter_54 (by decide) ?_
      exact W.iret (v := (-1 : Int32)) hx hb hr (fun t ht hW => ⟨⟨(-1 : Int32), (), rfl, hR, trivial⟩, hS.F ht⟩) hS.2.2 dX3_placeAfter_55
    · rw [if_pos c_2] at hR
      refine lv_iconst (v := (1 : Int32)) hx hb dX3_placeAfter_50 (by decide) ?_
      refine lv_goto (tgt := 55) hx hb dX3_placeAfter_51 (by decide) ?_
      exact W.iret (v := (1 : Int32)) hx hb hr (fun t ht hW => ⟨⟨(1 : Int32), (), rfl, hR, trivial⟩, hS.F ht⟩) hS.2.2 dX3_placeAfter_55
  rw [if_neg c_1] at hR
  by_cases c_3 : p1 = 1
  · rw [if_pos c_3] at hR
    refine lv_tableIn (tgt := 56) hx hb dX3_placeAfter_1 (by rw [c_3]; decide) (by rw [c_3]; decide) (by rw [c_3]; rfl) (by decide) ?_
    refine lv_iload_n hx hb dX3_placeAfter_56 rfl (lv_at hl 1 rfl) ?_
    refine va_calli (va_runS (As := [.int p2]) (rest := []) ⟨hx, hb, hml, hown, hts⟩ (met_X3_placeAfterFirstDigit l dC dI cI cZ cS s.heap.size p2) (va_cwS 1 hts gX3_placeAfter_X3_placeAfterFirstDigit rfl rfl rfl (by decide +kernel) ⟨Nat.le_of_ble_eq_true rfl, Nat.le_of_ble_eq_true rfl⟩) (pS (wc := []) hK hP hD hN [] rfl (by decide)) rfl rfl hl.1 rfl (lv_room (Nat.le_of_ble_eq_true rfl)) dX3_placeAfter_57 ⟨Nat.zero_le _, Nat.zero_le _⟩) hS (fun q _ h => a0_in hS hA q h) (a0_in hS hA) (fun r4 u t H1 locs ht hvm hw hB hz1 hk1 hS => ?_)
    have hR := bd_n hw hR
    have hP := rdk hP hk1
    exact W.iret (v := r4) hx hb hr (fun t ht hW => ⟨⟨r4, (), rfl, hR, trivial⟩, hS.F ht⟩) hS.2.2 dX3_placeAfter_60
  rw [if_neg c_3] at hR
  by_cases c_5 : p1 = 2
  · rw [if_pos c_5] at hR
    refine lv_tableIn (tgt := 61) hx hb dX3_placeAfter_1 (by rw [c_5]; decide) (by rw [c_5]; decide) (by rw [c_5]; rfl) (by decide) ?_
    refine lv_iload_n hx hb dX3_placeAfter_61 rfl (lv_at hl 1 rfl) ?_
    refine lv_bipush (v := (48 : Int32)) hx hb dX3_placeAfter_62 (by decide) ?_
    refine lv_bipush (v := (57 : Int32)) hx hb dX3_placeAfter_64 (by decide) ?_
    refine va_calli (va_runSN (As := [.int p2, .int (48 : Int32), .int (57 : Int32)]) (rest := []) ⟨hx, hb, hml, hown, hts⟩ (met_X6_isWithin l dC dI cI cZ cS s.heap.size p2 (48 : Int32) (57 : Int32)) ⟨va_cnB 3 hts ggX3_placeAfter_X6_isWithin rfl rfl rfl (hN_4 hN) (hw_ hts 6 rfl) (by decide +kernel) ⟨Nat.le_of_ble_eq_true rfl, Nat.le_of_ble_eq_true rfl⟩, (hw_ hts 5 rfl), trivial⟩ (pS (wc := []) hK hP hD hN [] rfl (by decide)) rfl rfl hl.1 rfl (lv_room (Nat.le_of_ble_eq_true rfl)) dX3_placeAfter_66 ⟨Nat.zero_le _, Nat.zero_le _⟩) hS (fun q _ h => a0_in hS hA q h) (a0_in hS hA) (fun r6 u t H1 locs ht hvm hw hB hz1 hk1 hS => ?_)
    obtain ⟨hw, nb7⟩ := hw
    subst hw
    have hP := rdk hP hk1
    refine lv_if_eq (tgt := 76) hx hb dX3_placeAfter_69 (by decide) (fun c_8 => ?_) (fun c_8 => ?_)
    · rw [if_pos c_8] at hR
      refine lv_iload_n hx hb dX3_placeAfter_76 rfl (lv_at hl 1 rfl) ?_
      refine va_calli (va_runS (As := [.int p2]) (rest := []) ⟨hx, hb, hml, hown, hts⟩ (met_X3_placeAfterDay l dC dI cI cZ cS H1.size p2) (va_cwS 1 hts gX3_placeAfter_X3_placeAfterDay rfl rfl rfl (by decide +kernel) ⟨Nat.le_of_ble_eq_true rfl, Nat.le_of_ble_eq_true rfl⟩) (pS (wc := []) hK hP hD hN [] rfl (by decide)) rfl rfl hl.1 rfl (lv_room (Nat.le_of_ble_eq_true rfl)) dX3_placeAfter_77 ⟨Nat.zero_le _, Nat.zero_le _⟩) hS (fun q _ h => a0_in hS hA q h) (a0_in hS hA) (fun r9 u t H2 locs ht hvm hw hB hz1 hk1 hS => ?_)
      have hR := bd_n hw hR
      have hP := rdk hP hk1
      exact W.iret (v := r9) hx hb hr (fun t ht hW => ⟨⟨r9, (), rfl, hR, trivial⟩, hS.F ht⟩) hS.2.2 dX3_placeAfter_80
    · rw [if_neg c_8] at hR
      refine lv_iconst (v := (4 : Int32)) hx hb dX3_placeAfter_72 (by decide) ?_
      refine lv_goto (tgt := 80) hx hb dX3_placeAfter_73 (by decide) ?_
      exact W.iret (v := (4 : Int32)) hx hb hr (fun t ht hW => ⟨⟨(4 : Int32), (), rfl, hR, trivial⟩, hS.F ht⟩) hS.2.2 dX3_placeAfter_80
  rw [if_neg c_5] at hR
  by_cases c_10 : p1 = 3
  · rw [if_pos c_10] at hR
    refine lv_tableIn (tgt := 81) hx hb dX3_placeAfter_1 (by rw [c_10]; decide) (by rw [c_10]; decide) (by rw [c_10]; rfl) (by decide) ?_
    refine lv_iload_n hx hb dX3_placeAfter_81 rfl (lv_at hl 1 rfl) ?_
    refine lv_bipush (v := (48 : Int32)) hx hb dX3_placeAfter_82 (by decide) ?_
    refine lv_bipush (v := (55 : Int32)) hx hb dX3_placeAfter_84 (by decide) ?_
    refine va_calli (va_runSN (As := [.int p2, .int (48 : Int32), .int (55 : Int32)]) (rest := []) ⟨hx, hb, hml, hown, hts⟩ (met_X6_isWithin l dC dI cI cZ cS s.heap.size p2 (48 : Int32) (55 : Int32)) ⟨va_cnB 3 hts ggX3_placeAfter_X6_isWithin rfl rfl rfl (hN_4 hN) (hw_ hts 6 rfl) (by decide +kernel) ⟨Nat.le_of_ble_eq_true rfl, Nat.le_of_ble_eq_true rfl⟩, (hw_ hts 5 rfl), trivial⟩ (pS (wc := []) hK hP hD hN [] rfl (by decide)) rfl rfl hl.1 rfl (lv_room (Nat.le_of_ble_eq_true rfl)) dX3_placeAfter_86 ⟨Nat.zero_le _, Nat.zero_le _⟩) hS (fun q _ h => a0_in hS hA q h) (a0_in hS hA) (fun r11 u t H1 locs ht hvm hw hB hz1 hk1 hS => ?_)
    obtain ⟨hw, nb12⟩ := hw
    subst hw
    have hP := rdk hP hk1
    refine lv_if_eq (tgt := 96) hx hb dX3_placeAfter_89 (by decide) (fun c_13 => ?_) (fun c_13 => ?_)
    · rw [if_pos c_13] at hR
      refine lv_iload_n hx hb dX3_placeAfter_96 rfl (lv_at hl 1 rfl) ?_
      refine va_calli (va_runS (As := [.int p2]) (rest := []) ⟨hx, hb, hml, hown, hts⟩ (met_X3_placeAfterDay l dC dI cI cZ cS H1.size p2) (va_cwS 1 hts gX3_placeAfter_X3_placeAfterDay rfl rfl rfl (by decide +kernel) ⟨Nat.le_of_ble_eq_true rfl, Nat.le_of_ble_eq_true rfl⟩) (pS (wc := []) hK hP hD hN [] rfl (by decide)) rfl rfl hl.1 rfl (lv_room (Nat.le_of_ble_eq_true rfl)) dX3_placeAfter_97 ⟨Nat.zero_le _, Nat.zero_le _⟩) hS (fun q _ h => a0_in hS hA q h) (a0_in hS hA) (fun r14 u t H2 locs ht hvm hw hB hz1 hk1 hS => ?_)
      have hR := bd_n hw hR
      have hP := rdk hP hk1
      exact W.iret (v := r14) hx hb hr (fun t ht hW => ⟨⟨r14, (), rfl, hR, trivial⟩, hS.F ht⟩) hS.2.2 dX3_placeAfter_100
    · rw [if_neg c_13] at hR
      refine lv_iconst (v := (4 : Int32)) hx hb dX3_placeAfter_92 (by decide) ?_
      refine lv_goto (tgt := 100) hx hb dX3_placeAfter_93 (by decide) ?_
      exact W.iret (v := (4 : Int32)) hx hb hr (fun t ht hW => ⟨⟨(4 : Int32), (), rfl, hR, trivial⟩, hS.F ht⟩) hS.2.2 dX3_placeAfter_100
  rw [if_neg c_10] at hR
  by_cases c_15 : p1 = 4
  · rw [if_pos c_15] at hR
    refine lv_tableIn (tgt := 101) hx hb dX3_placeAfter_1 (by rw [c_15]; decide) (by rw [c_15]; decide) (by rw [c_15]; rfl) (by decide) ?_
    refine lv_iload_n hx hb dX3_placeAfter_101 rfl (lv_at hl 1 rfl) ?_
    refine va_calli (va_runS (As := [.int p2]) (rest := []) ⟨hx, hb, hml, hown, hts⟩ (met_X3_placeAfterDay l dC dI cI cZ cS s.heap.size p2) (va_cwS 1 hts gX3_placeAfter_X3_placeAfterDay rfl rfl rfl (by decide +kernel) ⟨Nat.le_of_ble_eq_true rfl, Nat.le_of_ble_eq_true rfl⟩) (pS (wc := []) hK hP hD hN [] rfl (by decide)) rfl rfl hl.1 rfl (lv_room (Nat.le_of_ble_eq_true rfl)) dX3_placeAfter_102 ⟨Nat.zero_le _, Nat.zero_le _⟩) hS (fun q _ h => a0_in hS hA q h) (a0_in hS hA) (fun r16 u t H1 locs ht hvm hw hB hz1 hk1 hS => ?_)
    have hR := bd_n hw hR
    have hP := rdk hP hk1
    exact W.iret (v := r16) hx hb hr (fun t ht hW => ⟨⟨r16, (), rfl, hR, trivial⟩, hS.F ht⟩) hS.2.2 dX3_placeAfter_105
  rw [if_neg c_15] at hR
  by_cases c_17 : p1 = 5
  · rw [if_pos c_17] at hR
    refine lv_tableIn (tgt := 106) hx hb dX3_placeAfter_1 (by rw [c_17]; decide) (by rw [c_17]; decide) (by rw [c_17]; rfl) (by decide) ?_
    refine lv_iload_n hx hb dX3_placeAfter_106 rfl (lv_at hl 1 rfl) ?_
    refine lv_bipush (v := (97 : Int32)) hx hb dX3_placeAfter_107 (by decide) ?_
    refine lv_bipush (v := (108 : Int32)) hx hb dX3_placeAfter_109 (by decide) ?_
    refine va_calli (va_runSN (As := [.int p2, .int (97 : Int32), .int (108 : Int32)]) (rest := []) ⟨hx, hb, hml, hown, hts⟩ (met_X6_isWithin l dC dI cI cZ cS s.heap.size p2 (97 : Int32) (108 : Int32)) ⟨va_cnB 3 hts ggX3_placeAfter_X6_isWithin rfl rfl rfl (hN_4 hN) (hw_ hts 6 rfl) (by decide +kernel) ⟨Nat.le_of_ble_eq_true rfl, Nat.le_of_ble_eq_true rfl⟩, (hw_ hts 5 rfl), trivial⟩ (pS (wc := []) hK hP hD hN [] rfl (by decide)) rfl rfl hl.1 rfl (lv_room (Nat.le_of_ble_eq_true rfl)) dX3_placeAfter_111 ⟨Nat.zero_le _, Nat.zero_le _⟩) hS (fun q _ h => a0_in hS hA q h) (a0_in hS hA) (fun r18 u t H1 locs ht hvm hw hB hz1 hk1 hS => ?_)
    obtain ⟨hw, nb19⟩ := hw
    subst hw
    have hP := rdk hP hk1
    refine lv_if_eq (tgt := 122) hx hb dX3_placeAfter_114 (by decide) (fun c_20 => ?_) (fun c_20 => ?_)
    · rw [if_pos c_20] at hR
      refine lv_iconst (v := (-1 : Int32)) hx hb dX3_placeAfter_122 (by decide) ?_
      exact W.iret (v := (-1 : Int32)) hx hb hr (fun t ht hW => ⟨⟨(-1 : Int32), (), rfl, hR, trivial⟩, hS.F ht⟩) hS.2.2 dX3_placeAfter_123
    · rw [if_neg c_20] at hR
      refine lv_bipush (v := (6 : Int32)) hx hb dX3_placeAfter_117 (by decide) ?_
      refine lv_goto (tgt := 123) hx hb dX3_placeAfter_119 (by decide) ?_
      exact W.iret (v := (6 : Int32)) hx hb hr (fun t ht hW => ⟨⟨(6 : Int32), (), rfl, hR, trivial⟩, hS.F ht⟩) hS.2.2 dX3_placeAfter_123
  rw [if_neg c_17] at hR
  by_cases c_21 : p1 = 6
  · rw [if_pos c_21] at hR
    refine lv_tableIn (tgt := 124) hx hb dX3_placeAfter_1 (by rw [c_21]; decide) (by rw [c_21]; decide) (by rw [c_21]; rfl) (by decide) ?_
    refine lv_iload_n hx hb dX3_placeAfter_124 rfl (lv_at hl 1 rfl) ?_
    refine lv_bipush (v := (59 : Int32)) hx hb dX3_placeAfter_125 (by decide) ?_
    refine lv_icmp_ne (tgt := 134) hx hb dX3_placeAfter_127 (by decide) (fun c_22 => ?_) (fun c_22 => ?_)
    · rw [if_neg c_22] at hR
      refine lv_iconst (v := (-1 : Int32)) hx hb dX3_placeAfter_134 (by decide) ?_
      exact W.iret (v := (-1 : Int32)) hx hb hr (fun t ht hW => ⟨⟨(-1 : Int32), (), rfl, hR, trivial⟩, hS.F ht⟩) hS.2.2 dX3_placeAfter_135
    · rw [if_pos c_22] at hR
      refine lv_iconst (v := (0 : Int32)) hx hb dX3_placeAfter_130 (by decide) ?_
      refine lv_goto (tgt := 135) hx hb dX3_placeAfter_131 (by decide) ?_
      exact W.iret (v := (0 : Int32)) hx hb hr (fun t ht hW => ⟨⟨(0 : Int32), (), rfl, hR, trivial⟩, hS.F ht⟩) hS.2.2 dX3_placeAfter_135
  rw [if_neg c_21] at hR
  refine lv_tableOut (tgt := 136) hx hb dX3_placeAfter_1 (sw_out [0, 1, 2, 3, 4, 5, 6] (fun z h1 h2 => by simp; omega) (List.forall_mem_cons.mpr ⟨lv_neT (a := 0) c_1 rfl, List.forall_mem_cons.mpr ⟨lv_neT (a := 1) c_3 rfl, List.forall_mem_cons.mpr ⟨lv_neT (a := 2) c_5 rfl, List.forall_mem_cons.mpr ⟨lv_neT (a := 3) c_10 rfl, List.forall_mem_cons.mpr ⟨lv_neT (a := 4) c_15 rfl, List.forall_mem_cons.mpr ⟨lv_neT (a := 5) c_17 rfl, List.forall_mem_cons.mpr ⟨lv_neT (a := 6) c_21 rfl, fun _ h => absurd h List.not_mem_nil⟩⟩⟩⟩⟩⟩⟩)) (by decide) ?_
  refine lv_iconst (v := (-1 : Int32)) hx hb dX3_placeAfter_136 (by decide) ?_
  exact W.iret (v := (-1 : Int32)) hx hb hr (fun t ht hW => ⟨⟨(-1 : Int32), (), rfl, hR, trivial⟩, hS.F ht⟩) hS.2.2 dX3_placeAfter_137
abbrev rm_X3_addCode : Room := { frames := 1, cells := 0, slots := 0, locals := 22 }
abbrev q_X3_addCode (dC : Nat → ClassId) (dI : Nat → Nat → Nat) (cI cZ cS : ClassId) (aX : Nat → Nat)  (res : Pic) (A : Nat → Prop) : Array Value → State → Outcome → State → Prop := va_Qv (fun (u : Pic) => u = res) (fun u t => va_P (dC, dI) vwCl (wTx cI aX u) t.heap) A
set_option maxHeartbeats 4000000 in
set_option maxRecDepth 100000 in
theorem met_X3_addCode (l : Launch) (dC : Nat → ClassId) (dI : Nat → Nat → Nat) (cI cZ cS : ClassId) (aX : Nat → Nat) (T : Pic) (sz : Nat) (p1 : Int32) : Met l yX3_addCode wsX3_addCode rm_X3_addCode (va_Pc [.ref (aX 0), .int p1] (pW (dC, dI) (tyS cI cZ cS) (wTx cI aX T) sz)) (q_X3_addCode dC dI cI cZ cS aX (f3_addCode T p1) (va_A (wTx cI aX T) sz)) 0 0 (va_A (wTx cI aX T) sz) := by
  refine Met.ofW (cc := cX3_addCode) (maxL := 2) (ret := none) (by decide) rfl ?_
  intro p e s m args below meth c s₁ B hml hv
  obtain ⟨rfl, hsz, hP, hK, hD0, hN⟩ := hv
  have hx := B.exec
  have hb := B.bytes
  have hr := B.returns
  have hts := atoms_spec (ws := wsX3_addCode) B.pre
  have hown : s.vm.findClass RX3 = some m.cls := findClass_of_methodNamed B.named
  have hlocks := B.notSynchronized
  subst hsz
  have hD := hD0.self (sz := s.heap.size)
  generalize hAe : va_A (wTx cI aX T) s.heap.size = A at hD ⊢
  have hA : ∀ q : Nat, s.heap.size ≤ q → A q := fun q h => by rw [← hAe]; exact Or.inr h
  have hS : va_S A s.heap s.heap [] := va_S.rf
  have hP : va_P (dC, dI) vwCl (wTx cI aX T) s.heap := hP
  generalize hR : f3_addCode T p1 = res
  rw [f3_addCode] at hR
  have hin3 : ∀ w ∈ wsX30, w ∈ wsX3_addCode := by decide +kernel
  have hl := lv_entry ([.ref (aX 0), .int p1]) (n := 2) (Nat.le_of_ble_eq_true rfl)
  rw [lg_entry_eq]
  generalize (lg_sl ([.ref (aX 0), .int p1]) ++ List.replicate (2 - (lg_sl ([.ref (aX 0), .int p1])).length) Slot.unset).toArray = ls at hl ⊢
  have hl : lv_has ls 2 [(0, .ref (aX 0)), (1, .int p1)] := hl
  refine lv_aload_n hx hb dX3_addCode_0 rfl (lv_at hl 0 rfl) ?_
  refine va_get (D := (dC, dI)) (ci := 3) (v := .ref (aX 1)) (C := RX3) (T := TX3) (N := 2) hx hb hts hin3 hown hK hP 0 rfl rfl 0 (by decide) (hw_ hts 1 rfl) (fun _ h9 => h9) rfl dX3_addCode_1 ?_
  refine lv_aload_n hx hb dX3_addCode_4 rfl (lv_at hl 0 rfl) ?_
  refine va_get (D := (dC, dI)) (ci := 3) (v := .int ((T 1) 0)) (C := RX3) (T := TX3) (N := 2) hx hb hts hin3 hown hK hP 0 rfl rfl 1 (by decide) (hw_ hts 2 rfl) (fun _ h9 => h9) rfl dX3_addCode_5 ?_
  refine lv_iload_n hx hb dX3_addCode_8 rfl (lv_at hl 1 rfl) ?_
  have hF := va_free (wc := [((aX 1), .inl (cI, 60, .inl (T 0)))]) hD hS hA [1] rfl
  refine va_callv (va_runSN (As := [.ref (aX 1), .int ((T 1) 0), .int p1]) (rest := []) ⟨hx, hb, hml, hown, hts⟩ (met_X6_put l dC dI cI cZ cS (aX 1) 60 (by decide) (T 0) s.heap.size ((T 1) 0) p1) ⟨va_cnB 3 hts ggX3_addCode_X6_put rfl rfl rfl (hN_11 hN) (hw_ hts 4 rfl) (by decide +kernel) ⟨Nat.le_of_ble_eq_true rfl, Nat.le_of_ble_eq_true rfl⟩, (hw_ hts 3 rfl), trivial⟩ (pS (wc := [((aX 1), .inl (cI, 60, .inl (T 0)))]) hK hP hD hN [1] rfl (by decide)) rfl rfl hl.1 rfl (lv_room (Nat.le_of_ble_eq_true rfl)) dX3_addCode_9 ⟨Nat.zero_le _, Nat.zero_le _⟩) hS (fun q _ h => hF q h) hF (fun  u1 t H1 locs ht hvm hw hB hz1 hk1 hS => ?_)
  try dsimp only at hw hB
  rw [ht] at hB
  subst hw
  have hP := wrk (w2 := wTx cI aX (pset T 0 (f6_put 60 (T 0) ((T 1) 0) p1))) hP hD [1] rfl (by decide) hk1 hB rfl rfl
  have hD := D_addr (w1 := wTx cI aX (pset T 0 (f6_put 60 (T 0) ((T 1) 0) p1))) hD rfl
  obtain ⟨Tb2, hTb2⟩ : ∃ z : Pic, z = (pset T 0 (f6_put 60 (T 0) ((T 1) 0) p1)) := ⟨_, rfl⟩
  rw [← hTb2] at hP hD
  have hR := bd_n hTb2 hR
  refine lv_aload_n hx hb dX3_addCode_12 rfl (lv_at hl 0 rfl) ?_
  refine lv_dup hx hb dX3_addCode_13 rfl ?_
  refine va_get (D := (dC, dI)) (ci := 3) (v := .int ((Tb2 1) 0)) (C := RX3) (T := TX3) (N := 2) hx hb hts hin3 hown hK hP 0 rfl rfl 1 (by decide) (hw_ hts 2 rfl) (fun _ h9 => h9) rfl dX3_addCode_14 ?_
  refine lv_iconst (v := (1 : Int32)) hx hb dX3_addCode_17 (by decide) ?_
  refine lv_iadd hx hb dX3_addCode_18 ?_
  refine va_put (D := (dC, dI)) (ci := 3) (v := .int (((Tb2 1) 0) + (1 : Int32))) (ty := .int) (C := RX3) (T := TX3) (N := 2) hx hb hts hin3 tyX3 tyX3_ok nmX3 hown hK hP hD hS 0 rfl rfl 1 (by decide) (hw_ hts 2 rfl) (fun _ h9 => h9) rfl (by decide +kernel) rfl rfl (Nat.le_of_ble_eq_true rfl) dX3_addCode_19 (fun H2 locs hP hD hS => ?_)
  have hP : va_P (dC, dI) vwCl (wTx cI aX (pset Tb2 1 (fun _ => (((Tb2 1) 0) + (1 : Int32))))) H2 := hP
  have hD : va_D A (wTx cI aX (pset Tb2 1 (fun _ => (((Tb2 1) 0) + (1 : Int32))))) := hD
  obtain ⟨Tb3, hTb3⟩ : ∃ z : Pic, z = (pset Tb2 1 (fun _ => (((Tb2 1) 0) + (1 : Int32)))) := ⟨_, rfl⟩
  rw [← hTb3] at hP hD
  have hR := bd_n hTb3 hR
  exact W.vret hx hb hr (fun t ht hW => ⟨⟨Tb3, rfl, hR, P_at ht hP⟩, hS.F ht⟩) hS.2.2 dX3_addCode_22
abbrev rm_X3_makeEmpty : Room := { frames := 0, cells := 0, slots := 0, locals := 0 }
abbrev q_X3_makeEmpty (dC : Nat → ClassId) (dI : Nat → Nat → Nat) (cI cZ cS : ClassId) (aX : Nat → Nat)  (res : Pic) (A : Nat → Prop) : Array Value → State → Outcome → State → Prop := va_Qv (fun (u : Pic) => u = res) (fun u t => va_P (dC, dI) vwCl (wTx cI aX u) t.heap) A
set_option maxHeartbeats 4000000 in
set_option maxRecDepth 100000 in
theorem met_X3_makeEmpty (l : Launch) (dC : Nat → ClassId) (dI : Nat → Nat → Nat) (cI cZ cS : ClassId) (aX : Nat → Nat) (T : Pic) (sz : Nat)  : Met l yX3_makeEmpty wsX3_makeEmpty rm_X3_makeEmpty (va_Pc [.ref (aX 0)] (pW (dC, dI) (tyS cI cZ cS) (wTx cI aX T) sz)) (q_X3_makeEmpty dC dI cI cZ cS aX (f3_makeEmpty T) (va_A (wTx cI aX T) sz)) 0 0 (va_A (wTx cI aX T) sz) := by
  refine Met.ofW (cc := cX3_makeEmpty) (maxL := 1) (ret := none) (by decide) rfl ?_
  intro p e s m args below meth c s₁ B hml hv
  obtain ⟨rfl, hsz, hP, hK, hD0, hN⟩ := hv
  have hx := B.exec
  have hb := B.bytes
  have hr := B.returns
  have hts := atoms_spec (ws := wsX3_makeEmpty) B.pre
  have hown : s.vm.findClass RX3 = some m.cls := findClass_of_methodNamed B.named
  have hlocks := B.notSynchronized
  subst hsz
  have hD := hD0.self (sz := s.heap.size)
  generalize hAe : va_A (wTx cI aX T) s.heap.size = A at hD ⊢
  have hA : ∀ q : Nat, s.heap.size ≤ q → A q := fun q h => by rw [← hAe]; exact Or.inr h
  have hS : va_S A s.heap s.heap [] := va_S.rf
  have hP : va_P (dC, dI) vwCl (wTx cI aX T) s.heap := hP
  generalize hR : f3_makeEmpty T = res
  rw [f3_makeEmpty] at hR
  have hin3 : ∀ w ∈ wsX30, w ∈ wsX3_makeEmpty := by decide +kernel
  have hl := lv_entry ([.ref (aX 0)]) (n := 1) (Nat.le_of_ble_eq_true rfl)
  rw [lg_entry_eq]
  generalize (lg_sl ([.ref (aX 0)]) ++ List.replicate (1 - (lg_sl ([.ref (aX 0)])).length) Slot.unset).toArray = ls at hl ⊢
  have hl : lv_has ls 1 [(0, .ref (aX 0))] := hl
  refine lv_aload_n hx hb dX3_makeEmpty_0 rfl (lv_at hl 0 rfl) ?_
  refine lv_iconst (v := (0 : Int32)) hx hb dX3_makeEmpty_1 (by decide) ?_
  refine va_put (D := (dC, dI)) (ci := 3) (v := .int (0 : Int32)) (ty := .int) (C := RX3) (T := TX3) (N := 2) hx hb hts hin3 tyX3 tyX3_ok nmX3 hown hK hP hD hS 0 rfl rfl 1 (by decide) (hw_ hts 1 rfl) (fun _ h9 => h9) rfl (by decide +kernel) rfl rfl (Nat.le_of_ble_eq_true rfl) dX3_makeEmpty_2 (fun H1 locs hP hD hS => ?_)
  have hP : va_P (dC, dI) vwCl (wTx cI aX (pset T 1 (fun _ => (0 : Int32)))) H1 := hP
  have hD : va_D A (wTx cI aX (pset T 1 (fun _ => (0 : Int32)))) := hD
  exact W.vret hx hb hr (fun t ht hW => ⟨⟨(pset T 1 (fun _ => (0 : Int32))), rfl, hR, P_at ht hP⟩, hS.F ht⟩) hS.2.2 dX3_makeEmpty_5
abbrev rm_X3_errorIndex : Room := { frames := 3, cells := 0, slots := 0, locals := 63 }
abbrev q_X3_errorIndex (dC : Nat → ClassId) (dI : Nat → Nat → Nat) (cI cZ cS : ClassId) (aX : Nat → Nat)  (res : Int32) (A : Nat → Prop) : Array Value → State → Outcome → State → Prop := va_Qi (fun (r : Int32) (u : Unit) => r = res) (fun _ _ => True) A
set_option maxHeartbeats 4000000 in
set_option maxRecDepth 100000 in
theorem met_X3_errorIndex (l : Launch) (dC : Nat → ClassId) (dI : Nat → Nat → Nat) (cI cZ cS : ClassId) (aX : Nat → Nat) (T : Pic) (sz : Nat)  : Met l yX3_errorIndex wsX3_errorIndex rm_X3_errorIndex (va_Pc [.ref (aX 0)] (pW (dC, dI) (tyS cI cZ cS) (wTx cI aX T) sz)) (q_X3_errorIndex dC dI cI cZ cS aX (f3_errorIndex T) (a0 sz)) 0 0 (a0 sz) := by
  refine Met.ofW (cc := cX3_errorIndex) (maxL := 3) (ret := (some .int)) (by decide) rfl ?_
  intro p e s m args below meth c s₁ B hml hv
  obtain ⟨rfl, hsz, hP, hK, hD0, hN⟩ := hv
  have hx := B.exec
  have hb := B.bytes
  have hr := B.returns
  have hts := atoms_spec (ws := wsX3_errorIndex) B.pre
  have hown : s.vm.findClass RX3 = some m.cls := findClass_of_methodNamed B.named
  have hlocks := B.notSynchronized
  subst hsz
  have hD := hD0
  have hA : ∀ q : Nat, s.heap.size ≤ q → a0 s.heap.size q := fun q h => Or.inr h
  have hS : va_S (a0 s.heap.size) s.heap s.heap [] := va_S.rf
  have hP : va_P (dC, dI) vwCl (wTx cI aX T) s.heap := hP
  generalize hR : f3_errorIndex T = res
  rw [f3_errorIndex] at hR
  have hin3 : ∀ w ∈ wsX30, w ∈ wsX3_errorIndex := by decide +kernel
  have hl := lv_entry ([.ref (aX 0)]) (n := 3) (Nat.le_of_ble_eq_true rfl)
  rw [lg_entry_eq]
  generalize (lg_sl ([.ref (aX 0)]) ++ List.replicate (3 - (lg_sl ([.ref (aX 0)])).length) Slot.unset).toArray = ls at hl ⊢
  have hl : lv_has ls 3 [(0, .ref (aX 0))] := hl
  refine lv_iconst (v := (0 : Int32)) hx hb dX3_errorIndex_0 (by decide) ?_
  refine lv_istore_n (lv' := [(1, .int (0 : Int32)), (0, .ref (aX 0))]) hx hb dX3_errorIndex_1 rfl hl (by decide) rfl (fun ls hl => ?_)
  refine lv_iconst (v := (0 : Int32)) hx hb dX3_errorIndex_2 (by decide) ?_
  refine lv_istore_n (lv' := [(2, .int (0 : Int32)), (1, .int (0 : Int32)), (0, .ref (aX 0))]) hx hb dX3_errorIndex_3 rfl hl (by decide) rfl (fun ls hl => ?_)
  have LOOP4 : ∀ (k : Int32), (∀  (H1 : Heap) (locs : List Loc), k = res → va_P (dC, dI) vwCl (wTx cI aX T) H1 → va_D (fun _ => True) (wTx cI aX T) → va_S (a0 s.heap.size) s.heap H1 locs → ∀ (ls : Array Slot), lv_has ls 3 [(0, .ref (aX 0))] → W p l e (headSpec wsX3_errorIndex rm_X3_errorIndex).room s m ([.ref (aX 0)] : List Value).toArray below meth c H1 locs 0 0 (MQ below (q_X3_errorIndex dC dI cI cZ cS aX res (a0 s.heap.size)) ([.ref (aX 0)] : List Value).toArray s 0 0 (a0 s.heap.size)) (F0 m 38 ls [])) → ∀ (nf : Nat) (x1_4 : Int32) (x2_4 : Int32) (H1 : Heap) (locs : List Loc), (((T 1) 0)).toInt - (x2_4).toInt ≤ (nf : Int) → f3_errorIndex_L4 T nf x1_4 x2_4 k = res → va_P (dC, dI) vwCl (wTx cI aX T) H1 → va_D (fun _ => True) (wTx cI aX T) → va_S (a0 s.heap.size) s.heap H1 locs → ∀ (ls : Array Slot), lv_has ls 3 [(1, .int x1_4), (2, .int x2_4), (0, .ref (aX 0))] → W p l e (headSpec wsX3_errorIndex rm_X3_errorIndex).room s m ([.ref (aX 0)] : List Value).toArray below meth c H1 locs 0 0 (MQ below (q_X3_errorIndex dC dI cI cZ cS aX res (a0 s.heap.size)) ([.ref (aX 0)] : List Value).toArray s 0 0 (a0 s.heap.size)) (F0 m 4 ls []) := by
    intro k hk nf
    induction nf with
    | zero =>
      intro x1_4 x2_4 H1 locs hfu hR hP hD hS ls hl
      rw [f3_errorIndex_L4] at hR
      refine lv_iload_n hx hb dX3_errorIndex_4 rfl (lv_at hl 1 rfl) ?_
      refine lv_aload_n hx hb dX3_errorIndex_5 rfl (lv_at hl 2 rfl) ?_
      refine va_get (D := (dC, dI)) (ci := 3) (v := .int ((T 1) 0)) (C := RX3) (T := TX3) (N := 2) hx hb hts hin3 hown hK hP 0 rfl rfl 1 (by decide) (hw_ hts 1 rfl) (fun _ h9 => h9) rfl dX3_errorIndex_6 ?_
      refine lv_icmp_ge (tgt := 38) hx hb dX3_errorIndex_9 (by decide) (fun c_1 => ?_) (fun c_1 => ?_)
      · skip
        exact hk  _ _  hR hP hD hS ls (lv_sub hl [2] rfl)
      · exact (fuel0 hfu c_1).elim
    | succ nf ih =>
      intro x1_4 x2_4 H1 locs hfu hR hP hD hS ls hl
      rw [f3_errorIndex_L4] at hR
      refine lv_iload_n hx hb dX3_errorIndex_4 rfl (lv_at hl 1 rfl) ?_
      refine lv_aload_n hx hb dX3_errorIndex_5 rfl (lv_at hl 2 rfl) ?_
      refine va_get (D := (dC, dI)) (ci := 3) (v := .int ((T 1) 0)) (C := RX3) (T := TX3) (N := 2) hx hb hts hin3 hown hK hP 0 rfl rfl 1 (by decide) (hw_ hts 1 rfl) (fun _ h9 => h9) rfl dX3_errorIndex_6 ?_
      refine lv_icmp_ge (tgt := 38) hx hb dX3_errorIndex_9 (by decide) (fun c_2 => ?_) (fun c_2 => ?_)
      · rw [if_pos c_2] at hR
        exact hk  _ _  hR hP hD hS ls (lv_sub hl [2] rfl)
      · rw [if_neg c_2] at hR
        have hfu := fuelS hfu c_2
        refine lv_iload_n hx hb dX3_errorIndex_12 rfl (lv_at hl 0 rfl) ?_
        refine lv_aload_n hx hb dX3_errorIndex_13 rfl (lv_at hl 2 rfl) ?_
        refine va_get (D := (dC, dI)) (ci := 3) (v := .ref (aX 1)) (C := RX3) (T := TX3) (N := 2) hx hb hts hin3 hown hK hP 0 rfl rfl 0 (by decide) (hw_ hts 2 rfl) (fun _ h9 => h9) rfl dX3_errorIndex_14 ?_
        refine lv_iload_n hx hb dX3_errorIndex_17 rfl (lv_at hl 1 rfl) ?_
        refine va_calli (va_runSN (As := [.ref (aX 1), .int x2_4]) (rest := [.int x1_4]) ⟨hx, hb, hml, hown, hts⟩ (met_X6_at l dC dI cI cZ cS (aX 1) 60 (by decide) (T 0) H1.size x2_4) ⟨va_cnB 2 hts ggX3_errorIndex_X6_at rfl rfl rfl (hN_3 hN) (hw_ hts 4 rfl) (by decide +kernel) ⟨Nat.le_of_ble_eq_true rfl, Nat.le_of_ble_eq_true rfl⟩, (hw_ hts 3 rfl), trivial⟩ (pS (wc := [((aX 1), .inl (cI, 60, .inl (T 0)))]) hK hP hD hN [1] rfl (by decide)) rfl rfl hl.1 rfl (lv_room (Nat.le_of_ble_eq_true rfl)) dX3_errorIndex_18 ⟨Nat.zero_le _, Nat.zero_le _⟩) hS (fun q _ h => a0_in hS hA q h) (a0_in hS hA) (fun r3 u t H2 locs ht hvm hw hB hz1 hk1 hS => ?_)
        subst hw
        have hP := rdk hP hk1
        refine va_calli (va_runS (As := [.int x1_4, .int (f6_at 60 (T 0) x2_4)]) (rest := []) ⟨hx, hb, hml, hown, hts⟩ (met_X3_placeAfter l dC dI cI cZ cS H2.size x1_4 (f6_at 60 (T 0) x2_4)) (va_cwS 2 hts gX3_errorIndex_X3_placeAfter rfl rfl rfl (by decide +kernel) ⟨Nat.le_of_ble_eq_true rfl, Nat.le_of_ble_eq_true rfl⟩) (pS (wc := []) hK hP hD hN [] rfl (by decide)) rfl rfl hl.1 rfl (lv_room (Nat.le_of_ble_eq_true rfl)) dX3_errorIndex_21 ⟨Nat.zero_le _, Nat.zero_le _⟩) hS (fun q _ h => a0_in hS hA q h) (a0_in hS hA) (fun r4 u t H3 locs ht hvm hw hB hz1 hk1 hS => ?_)
        have hR := bd_n hw hR
        have hP := rdk hP hk1
        refine lv_istore_n (lv' := [(1, .int r4), (2, .int x2_4), (0, .ref (aX 0))]) hx hb dX3_errorIndex_24 rfl hl (by decide) rfl (fun ls hl => ?_)
        refine lv_iload_n hx hb dX3_errorIndex_25 rfl (lv_at hl 0 rfl) ?_
        refine lv_iconst (v := (-1 : Int32)) hx hb dX3_errorIndex_26 (by decide) ?_
        refine lv_icmp_ne (tgt := 32) hx hb dX3_errorIndex_27 (by decide) (fun c_5 => ?_) (fun c_5 => ?_)
        · rw [if_neg c_5] at hR
          refine lv_iinc (v := (x2_4 + 1)) (lv' := [(2, .int (x2_4 + 1)), (1, .int r4), (0, .ref (aX 0))]) hx hb dX3_errorIndex_32 hl (k := 1) rfl rfl (by decide) rfl (fun ls hl => ?_)
          refine lv_goto (tgt := 4) hx hb dX3_errorIndex_35 (by decide) ?_
          exact ih r4 (x2_4 + 1) _ _ hfu hR hP hD hS ls (lv_sub hl [1, 0, 2] rfl)
        · rw [if_pos c_5] at hR
          refine lv_iload_n hx hb dX3_errorIndex_30 rfl (lv_at hl 1 rfl) ?_
          exact W.iret (v := x2_4) hx hb hr (fun t ht hW => ⟨⟨x2_4, (), rfl, hR, trivial⟩, hS.F ht⟩) hS.2.2 dX3_errorIndex_31
  refine LOOP4 ((T 1) 0) (fun H1 locs hR hP hD hS ls hl => ?_) (fuelN (0 : Int32) ((T 1) 0)) (0 : Int32) (0 : Int32) _ _ (fuelE _ _) hR hP hD hS ls (lv_sub hl [1, 0, 2] rfl)
  try dsimp only at hR
  refine lv_aload_n hx hb dX3_errorIndex_38 rfl (lv_at hl 0 rfl) ?_
  refine va_get (D := (dC, dI)) (ci := 3) (v := .int ((T 1) 0)) (C := RX3) (T := TX3) (N := 2) hx hb hts hin3 hown hK hP 0 rfl rfl 1 (by decide) (hw_ hts 1 rfl) (fun _ h9 => h9) rfl dX3_errorIndex_39 ?_
  exact W.iret (v := ((T 1) 0)) hx hb hr (fun t ht hW => ⟨⟨((T 1) 0), (), rfl, hR, trivial⟩, hS.F ht⟩) hS.2.2 dX3_errorIndex_42
abbrev rm_X3_isComplete : Room := { frames := 4, cells := 0, slots := 0, locals := 85 }
abbrev q_X3_isComplete (dC : Nat → ClassId) (dI : Nat → Nat → Nat) (cI cZ cS : ClassId) (aX : Nat → Nat)  (res : Int32) (A : Nat → Prop) : Array Value → State → Outcome → State → Prop := va_Qi (fun (r : Int32) (u : Unit) => r = res ∧ narrow .boolean (.int r) = .int r) (fun _ _ => True) A
set_option maxHeartbeats 4000000 in
set_option maxRecDepth 100000 in
theorem met_X3_isComplete (l : Launch) (dC : Nat → ClassId) (dI : Nat → Nat → Nat) (cI cZ cS : ClassId) (aX : Nat → Nat) (T : Pic) (sz : Nat)  : Met l yX3_isComplete wsX3_isComplete rm_X3_isComplete (va_Pc [.ref (aX 0)] (pW (dC, dI) (tyS cI cZ cS) (wTx cI aX T) sz)) (q_X3_isComplete dC dI cI cZ cS aX (f3_isComplete T) (a0 sz)) 0 0 (a0 sz) := by
  refine Met.ofW (cc := cX3_isComplete) (maxL := 1) (ret := (some .boolean)) (by decide) rfl ?_
  intro p e s m args below meth c s₁ B hml hv
  obtain ⟨rfl, hsz, hP, hK, hD0, hN⟩ := hv
  have hx := B.exec
  have hb := B.bytes
  have hr := B.returns
  have hts := atoms_spec (ws := wsX3_isComplete) B.pre
  have hown : s.vm.findClass RX3 = some m.cls := findClass_of_methodNamed B.named
  have hlocks := B.notSynchronized
  subst hsz
  have hD := hD0
  have hA : ∀ q : Nat, s.heap.size ≤ q → a0 s.heap.size q := fun q h => Or.inr h
  have hS : va_S (a0 s.heap.size) s.heap s.heap [] := va_S.rf
  have hP : va_P (dC, dI) vwCl (wTx cI aX T) s.heap := hP
  generalize hR : f3_isComplete T = res
  rw [f3_isComplete] at hR
  have hin3 : ∀ w ∈ wsX30, w ∈ wsX3_isComplete := by decide +kernel
  have hl := lv_entry ([.ref (aX 0)]) (n := 1) (Nat.le_of_ble_eq_true rfl)
  rw [lg_entry_eq]
  generalize (lg_sl ([.ref (aX 0)]) ++ List.replicate (1 - (lg_sl ([.ref (aX 0)])).length) Slot.unset).toArray = ls at hl ⊢
  have hl : lv_has ls 1 [(0, .ref (aX 0))] := hl
  refine lv_aload_n hx hb dX3_isComplete_0 rfl (lv_at hl 0 rfl) ?_
  refine va_calli (va_runV (As := []) (rest := []) ⟨hx, hb, hml, hown, hts⟩ (met_X3_errorIndex l dC dI cI cZ cS aX T s.heap.size) (cwV 0 hts gX3_isComplete_X3_errorIndex rfl rfl rfl (by decide +kernel) ⟨Nat.le_of_ble_eq_true rfl, Nat.le_of_ble_eq_true rfl⟩) (pV (wc := wTx cI aX T) (ci := 3) (q0 := 0) hK hP hD hN [0, 1] rfl (by decide) rfl rfl) rfl rfl hl.1 rfl (lv_room (Nat.le_of_ble_eq_true rfl)) dX3_isComplete_1 ⟨Nat.zero_le _, Nat.zero_le _⟩) hS (fun q _ h => a0_in hS hA q h) (a0_in hS hA) (fun r1 u t H1 locs ht hvm hw hB hz1 hk1 hS => ?_)
  have hR := bd_n hw hR
  have hP := rdk hP hk1
  refine lv_aload_n hx hb dX3_isComplete_4 rfl (lv_at hl 0 rfl) ?_
  refine va_get (D := (dC, dI)) (ci := 3) (v := .int ((T 1) 0)) (C := RX3) (T := TX3) (N := 2) hx hb hts hin3 hown hK hP 0 rfl rfl 1 (by decide) (hw_ hts 1 rfl) (fun _ h9 => h9) rfl dX3_isComplete_5 ?_
  refine lv_icmp_ne (tgt := 33) hx hb dX3_isComplete_8 (by decide) (fun c_2 => ?_) (fun c_2 => ?_)
  · rw [if_neg c_2] at hR
    refine lv_iconst (v := (0 : Int32)) hx hb dX3_isComplete_33 (by decide) ?_
    exact W.zret (v := (0 : Int32)) (ty := .boolean) hx hb hr rfl (fun t ht hW => ⟨⟨(0 : Int32), (), rfl, ⟨hR, rfl⟩, trivial⟩, hS.F ht⟩) hS.2.2 dX3_isComplete_34
  · rw [if_pos c_2] at hR
    refine lv_aload_n hx hb dX3_isComplete_11 rfl (lv_at hl 0 rfl) ?_
    refine va_get (D := (dC, dI)) (ci := 3) (v := .ref (aX 1)) (C := RX3) (T := TX3) (N := 2) hx hb hts hin3 hown hK hP 0 rfl rfl 0 (by decide) (hw_ hts 2 rfl) (fun _ h9 => h9) rfl dX3_isComplete_12 ?_
    refine lv_aload_n hx hb dX3_isComplete_15 rfl (lv_at hl 0 rfl) ?_
    refine va_get (D := (dC, dI)) (ci := 3) (v := .int ((T 1) 0)) (C := RX3) (T := TX3) (N := 2) hx hb hts hin3 hown hK hP 0 rfl rfl 1 (by decide) (hw_ hts 1 rfl) (fun _ h9 => h9) rfl dX3_isComplete_16 ?_
    refine lv_iconst (v := (2 : Int32)) hx hb dX3_isComplete_19 (by decide) ?_
    refine lv_isub hx hb dX3_isComplete_20 ?_
    refine va_calli (va_runSN (As := [.ref (aX 1), .int (((T 1) 0) - (2 : Int32))]) (rest := []) ⟨hx, hb, hml, hown, hts⟩ (met_X6_at l dC dI cI cZ cS (aX 1) 60 (by decide) (T 0) H1.size (((T 1) 0) - (2 : Int32))) ⟨va_cnB 2 hts ggX3_isComplete_X6_at rfl rfl rfl (hN_3 hN) (hw_ hts 9 rfl) (by decide +kernel) ⟨Nat.le_of_ble_eq_true rfl, Nat.le_of_ble_eq_true rfl⟩, (hw_ hts 8 rfl), trivial⟩ (pS (wc := [((aX 1), .inl (cI, 60, .inl (T 0)))]) hK hP hD hN [1] rfl (by decide)) rfl rfl hl.1 rfl (lv_room (Nat.le_of_ble_eq_true rfl)) dX3_isComplete_21 ⟨Nat.zero_le _, Nat.zero_le _⟩) hS (fun q _ h => a0_in hS hA q h) (a0_in hS hA) (fun r3 u t H2 locs ht hvm hw hB hz1 hk1 hS => ?_)
    subst hw
    have hP := rdk hP hk1
    refine lv_bipush (v := (61 : Int32)) hx hb dX3_isComplete_24 (by decide) ?_
    refine lv_icmp_ne (tgt := 33) hx hb dX3_isComplete_26 (by decide) (fun c_4 => ?_) (fun c_4 => ?_)
    · rw [if_neg c_4] at hR
      refine lv_iconst (v := (0 : Int32)) hx hb dX3_isComplete_33 (by decide) ?_
      exact W.zret (v := (0 : Int32)) (ty := .boolean) hx hb hr rfl (fun t ht hW => ⟨⟨(0 : Int32), (), rfl, ⟨hR, rfl⟩, trivial⟩, hS.F ht⟩) hS.2.2 dX3_isComplete_34
    · rw [if_pos c_4] at hR
      refine lv_iconst (v := (1 : Int32)) hx hb dX3_isComplete_29 (by decide) ?_
      refine lv_goto (tgt := 34) hx hb dX3_isComplete_30 (by decide) ?_
      exact W.zret (v := (1 : Int32)) (ty := .boolean) hx hb hr rfl (fun t ht hW => ⟨⟨(1 : Int32), (), rfl, ⟨hR, rfl⟩, trivial⟩, hS.F ht⟩) hS.2.2 dX3_isComplete_34
abbrev rm_X3_entryCount : Room := { frames := 1, cells := 0, slots := 0, locals := 21 }
abbrev q_X3_entryCount (dC : Nat → ClassId) (dI : Nat → Nat → Nat) (cI cZ cS : ClassId) (aX : Nat → Nat)  (res : Int32) (A : Nat → Prop) : Array Value → State → Outcome → State → Prop := va_Qi (fun (r : Int32) (u : Unit) => r = res) (fun _ _ => True) A
set_option maxHeartbeats 4000000 in
set_option maxRecDepth 100000 in
theorem met_X3_entryCount (l : Launch) (dC : Nat → ClassId) (dI : Nat → Nat → Nat) (cI cZ cS : ClassId) (aX : Nat → Nat) (T : Pic) (sz : Nat)  : Met l yX3_entryCount wsX3_entryCount rm_X3_entryCount (va_Pc [.ref (aX 0)] (pW (dC, dI) (tyS cI cZ cS) (wTx cI aX T) sz)) (q_X3_entryCount dC dI cI cZ cS aX (f3_entryCount T) (a0 sz)) 0 0 (a0 sz) := by
  refine Met.ofW (cc := cX3_entryCount) (maxL := 3) (ret := (some .int)) (by decide) rfl ?_
  intro p e s m args below meth c s₁ B hml hv
  obtain ⟨rfl, hsz, hP, hK, hD0, hN⟩ := hv
  have hx := B.exec
  have hb := B.bytes
  have hr := B.returns
  have hts := atoms_spec (ws := wsX3_entryCount) B.pre
  have hown : s.vm.findClass RX3 = some m.cls := findClass_of_methodNamed B.named
  have hlocks := B.notSynchronized
  subst hsz
  have hD := hD0
  have hA : ∀ q : Nat, s.heap.size ≤ q → a0 s.heap.size q := fun q h => Or.inr h
  have hS : va_S (a0 s.heap.size) s.heap s.heap [] := va_S.rf
  have hP : va_P (dC, dI) vwCl (wTx cI aX T) s.heap := hP
  generalize hR : f3_entryCount T = res
  rw [f3_entryCount] at hR
  have hin3 : ∀ w ∈ wsX30, w ∈ wsX3_entryCount := by decide +kernel
  have hl := lv_entry ([.ref (aX 0)]) (n := 3) (Nat.le_of_ble_eq_true rfl)
  rw [lg_entry_eq]
  generalize (lg_sl ([.ref (aX 0)]) ++ List.replicate (3 - (lg_sl ([.ref (aX 0)])).length) Slot.unset).toArray = ls at hl ⊢
  have hl : lv_has ls 3 [(0, .ref (aX 0))] := hl
  refine lv_iconst (v := (1 : Int32)) hx hb dX3_entryCount_0 (by decide) ?_
  refine lv_istore_n (lv' := [(1, .int (1 : Int32)), (0, .ref (aX 0))]) hx hb dX3_entryCount_1 rfl hl (by decide) rfl (fun ls hl => ?_)
  refine lv_iconst (v := (0 : Int32)) hx hb dX3_entryCount_2 (by decide) ?_
  refine lv_istore_n (lv' := [(2, .int (0 : Int32)), (1, .int (1 : Int32)), (0, .ref (aX 0))]) hx hb dX3_entryCount_3 rfl hl (by decide) rfl (fun ls hl => ?_)
  have LOOP4 : ∀ (k : Int32 → Int32), (∀ (x1_4 : Int32) (H1 : Heap) (locs : List Loc), k x1_4 = res → va_P (dC, dI) vwCl (wTx cI aX T) H1 → va_D (fun _ => True) (wTx cI aX T) → va_S (a0 s.heap.size) s.heap H1 locs → ∀ (ls : Array Slot), lv_has ls 3 [(1, .int x1_4)] → W p l e (headSpec wsX3_entryCount rm_X3_entryCount).room s m ([.ref (aX 0)] : List Value).toArray below meth c H1 locs 0 0 (MQ below (q_X3_entryCount dC dI cI cZ cS aX res (a0 s.heap.size)) ([.ref (aX 0)] : List Value).toArray s 0 0 (a0 s.heap.size)) (F0 m 34 ls [])) → ∀ (nf : Nat) (x1_4 : Int32) (x2_4 : Int32) (H1 : Heap) (locs : List Loc), (((T 1) 0)).toInt - (x2_4).toInt ≤ (nf : Int) → f3_entryCount_L4 T nf x1_4 x2_4 k = res → va_P (dC, dI) vwCl (wTx cI aX T) H1 → va_D (fun _ => True) (wTx cI aX T) → va_S (a0 s.heap.size) s.heap H1 locs → ∀ (ls : Array Slot), lv_has ls 3 [(1, .int x1_4), (2, .int x2_4), (0, .ref (aX 0))] → W p l e (headSpec wsX3_entryCount rm_X3_entryCount).room s m ([.ref (aX 0)] : List Value).toArray below meth c H1 locs 0 0 (MQ below (q_X3_entryCount dC dI cI cZ cS aX res (a0 s.heap.size)) ([.ref (aX 0)] : List Value).toArray s 0 0 (a0 s.heap.size)) (F0 m 4 ls []) := by
    intro k hk nf
    induction nf with
    | zero =>
      intro x1_4 x2_4 H1 locs hfu hR hP hD hS ls hl
      rw [f3_entryCount_L4] at hR
      refine lv_iload_n hx hb dX3_entryCount_4 rfl (lv_at hl 1 rfl) ?_
      refine lv_aload_n hx hb dX3_entryCount_5 rfl (lv_at hl 2 rfl) ?_
      refine va_get (D := (dC, dI)) (ci := 3) (v := .int ((T 1) 0)) (C := RX3) (T := TX3) (N := 2) hx hb hts hin3 hown hK hP 0 rfl rfl 1 (by decide) (hw_ hts 1 rfl) (fun _ h9 => h9) rfl dX3_entryCount_6 ?_
      refine lv_icmp_ge (tgt := 34) hx hb dX3_entryCount_9 (by decide) (fun c_1 => ?_) (fun c_1 => ?_)
      · skip
        exact hk x1_4 _ _  hR hP hD hS ls (lv_sub hl [0] rfl)
      · exact (fuel0 hfu c_1).elim
    | succ nf ih =>
      intro x1_4 x2_4 H1 locs hfu hR hP hD hS ls hl
      rw [f3_entryCount_L4] at hR
      refine lv_iload_n hx hb dX3_entryCount_4 rfl (lv_at hl 1 rfl) ?_
      refine lv_aload_n hx hb dX3_entryCount_5 rfl (lv_at hl 2 rfl) ?_
      refine va_get (D := (dC, dI)) (ci := 3) (v := .int ((T 1) 0)) (C := RX3) (T := TX3) (N := 2) hx hb hts hin3 hown hK hP 0 rfl rfl 1 (by decide) (hw_ hts 1 rfl) (fun _ h9 => h9) rfl dX3_entryCount_6 ?_
      refine lv_icmp_ge (tgt := 34) hx hb dX3_entryCount_9 (by decide) (fun c_2 => ?_) (fun c_2 => ?_)
      · rw [if_pos c_2] at hR
        exact hk x1_4 _ _  hR hP hD hS ls (lv_sub hl [0] rfl)
      · rw [if_neg c_2] at hR
        have hfu := fuelS hfu c_2
        refine lv_aload_n hx hb dX3_entryCount_12 rfl (lv_at hl 2 rfl) ?_
        refine va_get (D := (dC, dI)) (ci := 3) (v := .ref (aX 1)) (C := RX3) (T := TX3) (N := 2) hx hb hts hin3 hown hK hP 0 rfl rfl 0 (by decide) (hw_ hts 2 rfl) (fun _ h9 => h9) rfl dX3_entryCount_13 ?_
        refine lv_iload_n hx hb dX3_entryCount_16 rfl (lv_at hl 1 rfl) ?_
        refine va_calli (va_runSN (As := [.ref (aX 1), .int x2_4]) (rest := []) ⟨hx, hb, hml, hown, hts⟩ (met_X6_at l dC dI cI cZ cS (aX 1) 60 (by decide) (T 0) H1.size x2_4) ⟨va_cnB 2 hts ggX3_entryCount_X6_at rfl rfl rfl (hN_3 hN) (hw_ hts 4 rfl) (by decide +kernel) ⟨Nat.le_of_ble_eq_true rfl, Nat.le_of_ble_eq_true rfl⟩, (hw_ hts 3 rfl), trivial⟩ (pS (wc := [((aX 1), .inl (cI, 60, .inl (T 0)))]) hK hP hD hN [1] rfl (by decide)) rfl rfl hl.1 rfl (lv_room (Nat.le_of_ble_eq_true rfl)) dX3_entryCount_17 ⟨Nat.zero_le _, Nat.zero_le _⟩) hS (fun q _ h => a0_in hS hA q h) (a0_in hS hA) (fun r3 u t H2 locs ht hvm hw hB hz1 hk1 hS => ?_)
        subst hw
        have hP := rdk hP hk1
        refine lv_bipush (v := (59 : Int32)) hx hb dX3_entryCount_20 (by decide) ?_
        refine lv_icmp_ne (tgt := 28) hx hb dX3_entryCount_22 (by decide) (fun c_4 => ?_) (fun c_4 => ?_)
        · rw [if_neg c_4] at hR
          refine lv_iinc (v := (x2_4 + 1)) (lv' := [(2, .int (x2_4 + 1)), (1, .int x1_4), (0, .ref (aX 0))]) hx hb dX3_entryCount_28 hl (k := 1) rfl rfl (by decide) rfl (fun ls hl => ?_)
          refine lv_goto (tgt := 4) hx hb dX3_entryCount_31 (by decide) ?_
          exact ih x1_4 (x2_4 + 1) _ _ hfu hR hP hD hS ls (lv_sub hl [1, 0, 2] rfl)
        · rw [if_pos c_4] at hR
          refine lv_iinc (v := (x1_4 + 1)) (lv' := [(1, .int (x1_4 + 1)), (2, .int x2_4), (0, .ref (aX 0))]) hx hb dX3_entryCount_25 hl (k := 0) rfl rfl (by decide) rfl (fun ls hl => ?_)
          refine lv_iinc (v := (x2_4 + 1)) (lv' := [(2, .int (x2_4 + 1)), (1, .int (x1_4 + 1)), (0, .ref (aX 0))]) hx hb dX3_entryCount_28 hl (k := 1) rfl rfl (by decide) rfl (fun ls hl => ?_)
          refine lv_goto (tgt := 4) hx hb dX3_entryCount_31 (by decide) ?_
          exact ih (x1_4 + 1) (x2_4 + 1) _ _ hfu hR hP hD hS ls (lv_sub hl [1, 0, 2] rfl)
  refine LOOP4 (fun x1_4 => x1_4) (fun x1_4 H1 locs hR hP hD hS ls hl => ?_) (fuelN (0 : Int32) ((T 1) 0)) (1 : Int32) (0 : Int32) _ _ (fuelE _ _) hR hP hD hS ls (lv_sub hl [1, 0, 2] rfl)
  try dsimp only at hR
  refine lv_iload_n hx hb dX3_entryCount_34 rfl (lv_at hl 0 rfl) ?_
  exact W.iret (v := x1_4) hx hb hr (fun t ht hW => ⟨⟨x1_4, (), rfl, hR, trivial⟩, hS.F ht⟩) hS.2.2 dX3_entryCount_35
abbrev rm_X3_startOf : Room := { frames := 1, cells := 0, slots := 0, locals := 21 }
abbrev q_X3_startOf (dC : Nat → ClassId) (dI : Nat → Nat → Nat) (cI cZ cS : ClassId) (aX : Nat → Nat)  (res : Int32) (A : Nat → Prop) : Array Value → State → Outcome → State → Prop := va_Qi (fun (r : Int32) (u : Unit) => r = res) (fun _ _ => True) A
set_option maxHeartbeats 4000000 in
set_option maxRecDepth 100000 in
theorem met_X3_startOf (l : Launch) (dC : Nat → ClassId) (dI : Nat → Nat → Nat) (cI cZ cS : ClassId) (aX : Nat → Nat) (T : Pic) (sz : Nat) (p1 : Int32) : Met l yX3_startOf wsX3_startOf rm_X3_startOf (va_Pc [.ref (aX 0), .int p1] (pW (dC, dI) (tyS cI cZ cS) (wTx cI aX T) sz)) (q_X3_startOf dC dI cI cZ cS aX (f3_startOf T p1) (a0 sz)) 0 0 (a0 sz) := by
  refine Met.ofW (cc := cX3_startOf) (maxL := 5) (ret := (some .int)) (by decide) rfl ?_
  intro p e s m args below meth c s₁ B hml hv
  obtain ⟨rfl, hsz, hP, hK, hD0, hN⟩ := hv
  have hx := B.exec
  have hb := B.bytes
  have hr := B.returns
  have hts := atoms_spec (ws := wsX3_startOf) B.pre
  have hown : s.vm.findClass RX3 = some m.cls := findClass_of_methodNamed B.named
  have hlocks := B.notSynchronized
  subst hsz
  have hD := hD0
  have hA : ∀ q : Nat, s.heap.size ≤ q → a0 s.heap.size q := fun q h => Or.inr h
  have hS : va_S (a0 s.heap.size) s.heap s.heap [] := va_S.rf
  have hP : va_P (dC, dI) vwCl (wTx cI aX T) s.heap := hP
  generalize hR : f3_startOf T p1 = res
  rw [f3_startOf] at hR
  have hin3 : ∀ w ∈ wsX30, w ∈ wsX3_startOf := by decide +kernel
  have hl := lv_entry ([.ref (aX 0), .int p1]) (n := 5) (Nat.le_of_ble_eq_true rfl)
  rw [lg_entry_eq]
  generalize (lg_sl ([.ref (aX 0), .int p1]) ++ List.replicate (5 - (lg_sl ([.ref (aX 0), .int p1])).length) Slot.unset).toArray = ls at hl ⊢
  have hl : lv_has ls 5 [(0, .ref (aX 0)), (1, .int p1)] := hl
  refine lv_iconst (v := (0 : Int32)) hx hb dX3_startOf_0 (by decide) ?_
  refine lv_istore_n (lv' := [(2, .int (0 : Int32)), (0, .ref (aX 0)), (1, .int p1)]) hx hb dX3_startOf_1 rfl hl (by decide) rfl (fun ls hl => ?_)
  refine lv_iconst (v := (0 : Int32)) hx hb dX3_startOf_2 (by decide) ?_
  refine lv_istore_n (lv' := [(3, .int (0 : Int32)), (2, .int (0 : Int32)), (0, .ref (aX 0)), (1, .int p1)]) hx hb dX3_startOf_3 rfl hl (by decide) rfl (fun ls hl => ?_)
  refine lv_iconst (v := (0 : Int32)) hx hb dX3_startOf_4 (by decide) ?_
  refine lv_istore (lv' := [(4, .int (0 : Int32)), (3, .int (0 : Int32)), (2, .int (0 : Int32)), (0, .ref (aX 0)), (1, .int p1)]) hx hb dX3_startOf_5 hl (by decide) rfl (fun ls hl => ?_)
  have LOOP7 : ∀ (k : Int32 → Int32), (∀ (x2_7 : Int32) (H1 : Heap) (locs : List Loc), k x2_7 = res → va_P (dC, dI) vwCl (wTx cI aX T) H1 → va_D (fun _ => True) (wTx cI aX T) → va_S (a0 s.heap.size) s.heap H1 locs → ∀ (ls : Array Slot), lv_has ls 5 [(2, .int x2_7)] → W p l e (headSpec wsX3_startOf rm_X3_startOf).room s m ([.ref (aX 0), .int p1] : List Value).toArray below meth c H1 locs 0 0 (MQ below (q_X3_startOf dC dI cI cZ cS aX res (a0 s.heap.size)) ([.ref (aX 0), .int p1] : List Value).toArray s 0 0 (a0 s.heap.size)) (F0 m 49 ls [])) → ∀ (nf : Nat) (x2_7 : Int32) (x3_7 : Int32) (x4_7 : Int32) (H1 : Heap) (locs : List Loc), (((T 1) 0)).toInt - (x4_7).toInt ≤ (nf : Int) → f3_startOf_L7 T p1 nf x2_7 x3_7 x4_7 k = res → va_P (dC, dI) vwCl (wTx cI aX T) H1 → va_D (fun _ => True) (wTx cI aX T) → va_S (a0 s.heap.size) s.heap H1 locs → ∀ (ls : Array Slot), lv_has ls 5 [(2, .int x2_7), (3, .int x3_7), (4, .int x4_7), (0, .ref (aX 0)), (1, .int p1)] → W p l e (headSpec wsX3_startOf rm_X3_startOf).room s m ([.ref (aX 0), .int p1] : List Value).toArray below meth c H1 locs 0 0 (MQ below (q_X3_startOf dC dI cI cZ cS aX res (a0 s.heap.size)) ([.ref (aX 0), .int p1] : List Value).toArray s 0 0 (a0 s.heap.size)) (F0 m 7 ls []) := by
    intro k hk nf
    induction nf with
    | zero =>
      intro x2_7 x3_7 x4_7 H1 locs hfu hR hP hD hS ls hl
      rw [f3_startOf_L7] at hR
      refine lv_iload hx hb dX3_startOf_7 (lv_at hl 2 rfl) ?_
      refine lv_aload_n hx hb dX3_startOf_9 rfl (lv_at hl 3 rfl) ?_
      refine va_get (D := (dC, dI)) (ci := 3) (v := .int ((T 1) 0)) (C := RX3) (T := TX3) (N := 2) hx hb hts hin3 hown hK hP 0 rfl rfl 1 (by decide) (hw_ hts 1 rfl) (fun _ h9 => h9) rfl dX3_startOf_10 ?_
      refine lv_icmp_ge (tgt := 49) hx hb dX3_startOf_13 (by decide) (fun c_1 => ?_) (fun c_1 => ?_)
      · skip
        exact hk x2_7 _ _  hR hP hD hS ls (lv_sub hl [0] rfl)
      · exact (fuel0 hfu c_1).elim
    | succ nf ih =>
      intro x2_7 x3_7 x4_7 H1 locs hfu hR hP hD hS ls hl
      rw [f3_startOf_L7] at hR
      refine lv_iload hx hb dX3_startOf_7 (lv_at hl 2 rfl) ?_
      refine lv_aload_n hx hb dX3_startOf_9 rfl (lv_at hl 3 rfl) ?_
      refine va_get (D := (dC, dI)) (ci := 3) (v := .int ((T 1) 0)) (C := RX3) (T := TX3) (N := 2) hx hb hts hin3 hown hK hP 0 rfl rfl 1 (by decide) (hw_ hts 1 rfl) (fun _ h9 => h9) rfl dX3_startOf_10 ?_
      refine lv_icmp_ge (tgt := 49) hx hb dX3_startOf_13 (by decide) (fun c_2 => ?_) (fun c_2 => ?_)
      · rw [if_pos c_2] at hR
        exact hk x2_7 _ _  hR hP hD hS ls (lv_sub hl [0] rfl)
      · rw [if_neg c_2] at hR
        have hfu := fuelS hfu c_2
        refine lv_iload_n hx hb dX3_startOf_16 rfl (lv_at hl 1 rfl) ?_
        refine lv_iload_n hx hb dX3_startOf_17 rfl (lv_at hl 4 rfl) ?_
        refine lv_icmp_ge (tgt := 49) hx hb dX3_startOf_18 (by decide) (fun c_3 => ?_) (fun c_3 => ?_)
        · rw [if_pos c_3] at hR
          exact hk x2_7 _ _  hR hP hD hS ls (lv_sub hl [0] rfl)
        · rw [if_neg c_3] at hR
          refine lv_aload_n hx hb dX3_startOf_21 rfl (lv_at hl 3 rfl) ?_
          refine va_get (D := (dC, dI)) (ci := 3) (v := .ref (aX 1)) (C := RX3) (T := TX3) (N := 2) hx hb hts hin3 hown hK hP 0 rfl rfl 0 (by decide) (hw_ hts 2 rfl) (fun _ h9 => h9) rfl dX3_startOf_22 ?_
          refine lv_iload hx hb dX3_startOf_25 (lv_at hl 2 rfl) ?_
          refine va_calli (va_runSN (As := [.ref (aX 1), .int x4_7]) (rest := []) ⟨hx, hb, hml, hown, hts⟩ (met_X6_at l dC dI cI cZ cS (aX 1) 60 (by decide) (T 0) H1.size x4_7) ⟨va_cnB 2 hts ggX3_startOf_X6_at rfl rfl rfl (hN_3 hN) (hw_ hts 4 rfl) (by decide +kernel) ⟨Nat.le_of_ble_eq_true rfl, Nat.le_of_ble_eq_true rfl⟩, (hw_ hts 3 rfl), trivial⟩ (pS (wc := [((aX 1), .inl (cI, 60, .inl (T 0)))]) hK hP hD hN [1] rfl (by decide)) rfl rfl hl.1 rfl (lv_room (Nat.le_of_ble_eq_true rfl)) dX3_startOf_27 ⟨Nat.zero_le _, Nat.zero_le _⟩) hS (fun q _ h => a0_in hS hA q h) (a0_in hS hA) (fun r4 u t H2 locs ht hvm hw hB hz1 hk1 hS => ?_)
          subst hw
          have hP := rdk hP hk1
          refine lv_bipush (v := (59 : Int32)) hx hb dX3_startOf_30 (by decide) ?_
          refine lv_icmp_ne (tgt := 43) hx hb dX3_startOf_32 (by decide) (fun c_5 => ?_) (fun c_5 => ?_)
          · rw [if_neg c_5] at hR
            refine lv_iinc (v := (x4_7 + 1)) (lv' := [(4, .int (x4_7 + 1)), (2, .int x2_7), (3, .int x3_7), (0, .ref (aX 0)), (1, .int p1)]) hx hb dX3_startOf_43 hl (k := 2) rfl rfl (by decide) rfl (fun ls hl => ?_)
            refine lv_goto (tgt := 7) hx hb dX3_startOf_46 (by decide) ?_
            exact ih x2_7 x3_7 (x4_7 + 1) _ _ hfu hR hP hD hS ls (lv_sub hl [1, 2, 0, 3, 4] rfl)
          · rw [if_pos c_5] at hR
            refine lv_iinc (v := (x3_7 + 1)) (lv' := [(3, .int (x3_7 + 1)), (2, .int x2_7), (4, .int x4_7), (0, .ref (aX 0)), (1, .int p1)]) hx hb dX3_startOf_35 hl (k := 1) rfl rfl (by decide) rfl (fun ls hl => ?_)
            refine lv_iload hx hb dX3_startOf_38 (lv_at hl 2 rfl) ?_
            refine lv_iconst (v := (1 : Int32)) hx hb dX3_startOf_40 (by decide) ?_
            refine lv_iadd hx hb dX3_startOf_41 ?_
            refine lv_topi (fun v6 hv6 => ?_)
            have hR := bd_n hv6 hR
            refine lv_istore_n (lv' := [(2, .int v6), (3, .int (x3_7 + 1)), (4, .int x4_7), (0, .ref (aX 0)), (1, .int p1)]) hx hb dX3_startOf_42 rfl hl (by decide) rfl (fun ls hl => ?_)
            refine lv_iinc (v := (x4_7 + 1)) (lv' := [(4, .int (x4_7 + 1)), (2, .int v6), (3, .int (x3_7 + 1)), (0, .ref (aX 0)), (1, .int p1)]) hx hb dX3_startOf_43 hl (k := 2) rfl rfl (by decide) rfl (fun ls hl => ?_)
            refine lv_goto (tgt := 7) hx hb dX3_startOf_46 (by decide) ?_
            exact ih v6 (x3_7 + 1) (x4_7 + 1) _ _ hfu hR hP hD hS ls (lv_sub hl [1, 2, 0, 3, 4] rfl)
  refine LOOP7 (fun x2_7 => x2_7) (fun x2_7 H1 locs hR hP hD hS ls hl => ?_) (fuelN (0 : Int32) ((T 1) 0)) (0 : Int32) (0 : Int32) (0 : Int32) _ _ (fuelE _ _) hR hP hD hS ls (lv_sub hl [2, 1, 0, 3, 4] rfl)
  try dsimp only at hR
  refine lv_iload_n hx hb dX3_startOf_49 rfl (lv_at hl 0 rfl) ?_
  exact W.iret (v := x2_7) hx hb hr (fun t ht hW => ⟨⟨x2_7, (), rfl, hR, trivial⟩, hS.F ht⟩) hS.2.2 dX3_startOf_50
abbrev rm_X3_dayFrom : Room := { frames := 1, cells := 0, slots := 0, locals := 21 }
abbrev q_X3_dayFrom (dC : Nat → ClassId) (dI : Nat → Nat → Nat) (cI cZ cS : ClassId) (aX : Nat → Nat)  (res : Int32) (A : Nat → Prop) : Array Value → State → Outcome → State → Prop := va_Qi (fun (r : Int32) (u : Unit) => r = res) (fun _ _ => True) A
set_option maxHeartbeats 4000000 in
set_option maxRecDepth 100000 in
theorem met_X3_dayFrom (l : Launch) (dC : Nat → ClassId) (dI : Nat → Nat → Nat) (cI cZ cS : ClassId) (aX : Nat → Nat) (T : Pic) (sz : Nat) (p1 : Int32) : Met l yX3_dayFrom wsX3_dayFrom rm_X3_dayFrom (va_Pc [.ref (aX 0), .int p1] (pW (dC, dI) (tyS cI cZ cS) (wTx cI aX T) sz)) (q_X3_dayFrom dC dI cI cZ cS aX (f3_dayFrom T p1) (a0 sz)) 0 0 (a0 sz) := by
  refine Met.ofW (cc := cX3_dayFrom) (maxL := 4) (ret := (some .int)) (by decide) rfl ?_
  intro p e s m args below meth c s₁ B hml hv
  obtain ⟨rfl, hsz, hP, hK, hD0, hN⟩ := hv
  have hx := B.exec
  have hb := B.bytes
  have hr := B.returns
  have hts := atoms_spec (ws := wsX3_dayFrom) B.pre
  have hown : s.vm.findClass RX3 = some m.cls := findClass_of_methodNamed B.named
  have hlocks := B.notSynchronized
  subst hsz
  have hD := hD0
  have hA : ∀ q : Nat, s.heap.size ≤ q → a0 s.heap.size q := fun q h => Or.inr h
  have hS : va_S (a0 s.heap.size) s.heap s.heap [] := va_S.rf
  have hP : va_P (dC, dI) vwCl (wTx cI aX T) s.heap := hP
  generalize hR : f3_dayFrom T p1 = res
  rw [f3_dayFrom] at hR
  have hin3 : ∀ w ∈ wsX30, w ∈ wsX3_dayFrom := by decide +kernel
  have hl := lv_entry ([.ref (aX 0), .int p1]) (n := 4) (Nat.le_of_ble_eq_true rfl)
  rw [lg_entry_eq]
  generalize (lg_sl ([.ref (aX 0), .int p1]) ++ List.replicate (4 - (lg_sl ([.ref (aX 0), .int p1])).length) Slot.unset).toArray = ls at hl ⊢
  have hl : lv_has ls 4 [(0, .ref (aX 0)), (1, .int p1)] := hl
  refine lv_iconst (v := (0 : Int32)) hx hb dX3_dayFrom_0 (by decide) ?_
  refine lv_istore_n (lv' := [(2, .int (0 : Int32)), (0, .ref (aX 0)), (1, .int p1)]) hx hb dX3_dayFrom_1 rfl hl (by decide) rfl (fun ls hl => ?_)
  refine lv_iload_n hx hb dX3_dayFrom_2 rfl (lv_at hl 2 rfl) ?_
  refine lv_iconst (v := (1 : Int32)) hx hb dX3_dayFrom_3 (by decide) ?_
  refine lv_iadd hx hb dX3_dayFrom_4 ?_
  refine lv_topi (fun v1 hv1 => ?_)
  have hR := bd_n hv1 hR
  refine lv_istore_n (lv' := [(3, .int v1), (2, .int (0 : Int32)), (0, .ref (aX 0)), (1, .int p1)]) hx hb dX3_dayFrom_5 rfl hl (by decide) rfl (fun ls hl => ?_)
  have LOOP6 : ∀ (k : Int32 → Int32), (∀ (x2_6 : Int32) (H1 : Heap) (locs : List Loc), k x2_6 = res → va_P (dC, dI) vwCl (wTx cI aX T) H1 → va_D (fun _ => True) (wTx cI aX T) → va_S (a0 s.heap.size) s.heap H1 locs → ∀ (ls : Array Slot), lv_has ls 4 [(2, .int x2_6)] → W p l e (headSpec wsX3_dayFrom rm_X3_dayFrom).room s m ([.ref (aX 0), .int p1] : List Value).toArray below meth c H1 locs 0 0 (MQ below (q_X3_dayFrom dC dI cI cZ cS aX res (a0 s.heap.size)) ([.ref (aX 0), .int p1] : List Value).toArray s 0 0 (a0 s.heap.size)) (F0 m 50 ls [])) → ∀ (nf : Nat) (x2_6 : Int32) (x3_6 : Int32) (H1 : Heap) (locs : List Loc), (((T 1) 0)).toInt - (x3_6).toInt ≤ (nf : Int) → f3_dayFrom_L6 T nf x2_6 x3_6 k = res → va_P (dC, dI) vwCl (wTx cI aX T) H1 → va_D (fun _ => True) (wTx cI aX T) → va_S (a0 s.heap.size) s.heap H1 locs → ∀ (ls : Array Slot), lv_has ls 4 [(2, .int x2_6), (3, .int x3_6), (0, .ref (aX 0))] → W p l e (headSpec wsX3_dayFrom rm_X3_dayFrom).room s m ([.ref (aX 0), .int p1] : List Value).toArray below meth c H1 locs 0 0 (MQ below (q_X3_dayFrom dC dI cI cZ cS aX res (a0 s.heap.size)) ([.ref (aX 0), .int p1] : List Value).toArray s 0 0 (a0 s.heap.size)) (F0 m 6 ls []) := by
    intro k hk nf
    induction nf with
    | zero =>
      intro x2_6 x3_6 H1 locs hfu hR hP hD hS ls hl
      rw [f3_dayFrom_L6] at hR
      refine lv_iload_n hx hb dX3_dayFrom_6 rfl (lv_at hl 1 rfl) ?_
      refine lv_aload_n hx hb dX3_dayFrom_7 rfl (lv_at hl 2 rfl) ?_
      refine va_get (D := (dC, dI)) (ci := 3) (v := .int ((T 1) 0)) (C := RX3) (T := TX3) (N := 2) hx hb hts hin3 hown hK hP 0 rfl rfl 1 (by decide) (hw_ hts 1 rfl) (fun _ h9 => h9) rfl dX3_dayFrom_8 ?_
      refine lv_icmp_ge (tgt := 50) hx hb dX3_dayFrom_11 (by decide) (fun c_2 => ?_) (fun c_2 => ?_)
      · skip
        exact hk x2_6 _ _  hR hP hD hS ls (lv_sub hl [0] rfl)
      · exact (fuel0 hfu c_2).elim
    | succ nf ih =>
      intro x2_6 x3_6 H1 locs hfu hR hP hD hS ls hl
      rw [f3_dayFrom_L6] at hR
      refine lv_iload_n hx hb dX3_dayFrom_6 rfl (lv_at hl 1 rfl) ?_
      refine lv_aload_n hx hb dX3_dayFrom_7 rfl (lv_at hl 2 rfl) ?_
      refine va_get (D := (dC, dI)) (ci := 3) (v := .int ((T 1) 0)) (C := RX3) (T := TX3) (N := 2) hx hb hts hin3 hown hK hP 0 rfl rfl 1 (by decide) (hw_ hts 1 rfl) (fun _ h9 => h9) rfl dX3_dayFrom_8 ?_
      refine lv_icmp_ge (tgt := 50) hx hb dX3_dayFrom_11 (by decide) (fun c_3 => ?_) (fun c_3 => ?_)
      · rw [if_pos c_3] at hR
        exact hk x2_6 _ _  hR hP hD hS ls (lv_sub hl [0] rfl)
      · rw [if_neg c_3] at hR
        have hfu := fuelS hfu c_3
        refine lv_aload_n hx hb dX3_dayFrom_14 rfl (lv_at hl 2 rfl) ?_
        refine va_get (D := (dC, dI)) (ci := 3) (v := .ref (aX 1)) (C := RX3) (T := TX3) (N := 2) hx hb hts hin3 hown hK hP 0 rfl rfl 0 (by decide) (hw_ hts 2 rfl) (fun _ h9 => h9) rfl dX3_dayFrom_15 ?_
        refine lv_iload_n hx hb dX3_dayFrom_18 rfl (lv_at hl 1 rfl) ?_
        refine va_calli (va_runSN (As := [.ref (aX 1), .int x3_6]) (rest := []) ⟨hx, hb, hml, hown, hts⟩ (met_X6_at l dC dI cI cZ cS (aX 1) 60 (by decide) (T 0) H1.size x3_6) ⟨va_cnB 2 hts ggX3_dayFrom_X6_at rfl rfl rfl (hN_3 hN) (hw_ hts 4 rfl) (by decide +kernel) ⟨Nat.le_of_ble_eq_true rfl, Nat.le_of_ble_eq_true rfl⟩, (hw_ hts 3 rfl), trivial⟩ (pS (wc := [((aX 1), .inl (cI, 60, .inl (T 0)))]) hK hP hD hN [1] rfl (by decide)) rfl rfl hl.1 rfl (lv_room (Nat.le_of_ble_eq_true rfl)) dX3_dayFrom_19 ⟨Nat.zero_le _, Nat.zero_le _⟩) hS (fun q _ h => a0_in hS hA q h) (a0_in hS hA) (fun r4 u t H2 locs ht hvm hw hB hz1 hk1 hS => ?_)
        subst hw
        have hP := rdk hP hk1
        refine lv_bipush (v := (61 : Int32)) hx hb dX3_dayFrom_22 (by decide) ?_
        refine lv_icmp_eq (tgt := 50) hx hb dX3_dayFrom_24 (by decide) (fun c_5 => ?_) (fun c_5 => ?_)
        · rw [if_pos c_5] at hR
          exact hk x2_6 _ _  hR hP hD hS ls (lv_sub hl [0] rfl)
        · rw [if_neg c_5] at hR
          refine lv_iload_n hx hb dX3_dayFrom_27 rfl (lv_at hl 0 rfl) ?_
          refine lv_bipush (v := (10 : Int32)) hx hb dX3_dayFrom_28 (by decide) ?_
          refine lv_imul hx hb dX3_dayFrom_30 ?_
          refine lv_aload_n hx hb dX3_dayFrom_31 rfl (lv_at hl 2 rfl) ?_
          refine va_get (D := (dC, dI)) (ci := 3) (v := .ref (aX 1)) (C := RX3) (T := TX3) (N := 2) hx hb hts hin3 hown hK hP 0 rfl rfl 0 (by decide) (hw_ hts 2 rfl) (fun _ h9 => h9) rfl dX3_dayFrom_32 ?_
          refine lv_iload_n hx hb dX3_dayFrom_35 rfl (lv_at hl 1 rfl) ?_
          refine va_calli (va_runSN (As := [.ref (aX 1), .int x3_6]) (rest := [.int (x2_6 * (10 : Int32))]) ⟨hx, hb, hml, hown, hts⟩ (met_X6_at l dC dI cI cZ cS (aX 1) 60 (by decide) (T 0) H2.size x3_6) ⟨va_cnB 2 hts ggX3_dayFrom_X6_at rfl rfl rfl (hN_3 hN) (hw_ hts 4 rfl) (by decide +kernel) ⟨Nat.le_of_ble_eq_true rfl, Nat.le_of_ble_eq_true rfl⟩, (hw_ hts 3 rfl), trivial⟩ (pS (wc := [((aX 1), .inl (cI, 60, .inl (T 0)))]) hK hP hD hN [1] rfl (by decide)) rfl rfl hl.1 rfl (lv_room (Nat.le_of_ble_eq_true rfl)) dX3_dayFrom_36 ⟨Nat.zero_le _, Nat.zero_le _⟩) hS (fun q _ h => a0_in hS hA q h) (a0_in hS hA) (fun r6 u t H3 locs ht hvm hw hB hz1 hk1 hS => ?_)
          subst hw
          have hP := rdk hP hk1
          refine lv_iadd hx hb dX3_dayFrom_39 ?_
          refine lv_bipush (v := (48 : Int32)) hx hb dX3_dayFrom_40 (by decide) ?_
          refine lv_isub hx hb dX3_dayFrom_42 ?_
          refine lv_topi (fun v7 hv7 => ?_)
          have hR := bd_n hv7 hR
          refine lv_istore_n (lv' := [(2, .int v7), (3, .int x3_6), (0, .ref (aX 0))]) hx hb dX3_dayFrom_43 rfl hl (by decide) rfl (fun ls hl => ?_)
          refine lv_iinc (v := (x3_6 + 1)) (lv' := [(3, .int (x3_6 + 1)), (2, .int v7), (0, .ref (aX 0))]) hx hb dX3_dayFrom_44 hl (k := 1) rfl rfl (by decide) rfl (fun ls hl => ?_)
          refine lv_goto (tgt := 6) hx hb dX3_dayFrom_47 (by decide) ?_
          exact ih v7 (x3_6 + 1) _ _ hfu hR hP hD hS ls (lv_sub hl [1, 0, 2] rfl)
  refine LOOP6 (fun x2_6 => x2_6) (fun x2_6 H1 locs hR hP hD hS ls hl => ?_) (fuelN v1 ((T 1) 0)) (0 : Int32) v1 _ _ (fuelE _ _) hR hP hD hS ls (lv_sub hl [1, 0, 2] rfl)
  try dsimp only at hR
  refine lv_iload_n hx hb dX3_dayFrom_50 rfl (lv_at hl 0 rfl) ?_
  exact W.iret (v := x2_6) hx hb hr (fun t ht hW => ⟨⟨x2_6, (), rfl, hR, trivial⟩, hS.F ht⟩) hS.2.2 dX3_dayFrom_51
abbrev rm_X3_dishFrom : Room := { frames := 1, cells := 0, slots := 0, locals := 21 }
abbrev q_X3_dishFrom (dC : Nat → ClassId) (dI : Nat → Nat → Nat) (cI cZ cS : ClassId) (aX : Nat → Nat)  (res : Int32) (A : Nat → Prop) : Array Value → State → Outcome → State → Prop := va_Qi (fun (r : Int32) (u : Unit) => r = res) (fun _ _ => True) A
set_option maxHeartbeats 4000000 in
set_option maxRecDepth 100000 in
theorem met_X3_dishFrom (l : Launch) (dC : Nat → ClassId) (dI : Nat → Nat → Nat) (cI cZ cS : ClassId) (aX : Nat → Nat) (T : Pic) (sz : Nat) (p1 : Int32) : Met l yX3_dishFrom wsX3_dishFrom rm_X3_dishFrom (va_Pc [.ref (aX 0), .int p1] (pW (dC, dI) (tyS cI cZ cS) (wTx cI aX T) sz)) (q_X3_dishFrom dC dI cI cZ cS aX (f3_dishFrom T p1) (a0 sz)) 0 0 (a0 sz) := by
  refine Met.ofW (cc := cX3_dishFrom) (maxL := 3) (ret := (some .int)) (by decide) rfl ?_
  intro p e s m args below meth c s₁ B hml hv
  obtain ⟨rfl, hsz, hP, hK, hD0, hN⟩ := hv
  have hx := B.exec
  have hb := B.bytes
  have hr := B.returns
  have hts := atoms_spec (ws := wsX3_dishFrom) B.pre
  have hown : s.vm.findClass RX3 = some m.cls := findClass_of_methodNamed B.named
  have hlocks := B.notSynchronized
  subst hsz
  have hD := hD0
  have hA : ∀ q : Nat, s.heap.size ≤ q → a0 s.heap.size q := fun q h => Or.inr h
  have hS : va_S (a0 s.heap.size) s.heap s.heap [] := va_S.rf
  have hP : va_P (dC, dI) vwCl (wTx cI aX T) s.heap := hP
  generalize hR : f3_dishFrom T p1 = res
  rw [f3_dishFrom] at hR
  have hin3 : ∀ w ∈ wsX30, w ∈ wsX3_dishFrom := by decide +kernel
  have hl := lv_entry ([.ref (aX 0), .int p1]) (n := 3) (Nat.le_of_ble_eq_true rfl)
  rw [lg_entry_eq]
  generalize (lg_sl ([.ref (aX 0), .int p1]) ++ List.replicate (3 - (lg_sl ([.ref (aX 0), .int p1])).length) Slot.unset).toArray = ls at hl ⊢
  have hl : lv_has ls 3 [(0, .ref (aX 0)), (1, .int p1)] := hl
  refine lv_iload_n hx hb dX3_dishFrom_0 rfl (lv_at hl 1 rfl) ?_
  refine lv_istore_n (lv' := [(2, .int p1), (0, .ref (aX 0)), (1, .int p1)]) hx hb dX3_dishFrom_1 rfl hl (by decide) rfl (fun ls hl => ?_)
  have LOOP2 : ∀ (k : Int32), (∀  (H1 : Heap) (locs : List Loc), k = res → va_P (dC, dI) vwCl (wTx cI aX T) H1 → va_D (fun _ => True) (wTx cI aX T) → va_S (a0 s.heap.size) s.heap H1 locs → ∀ (ls : Array Slot), lv_has ls 3 [] → W p l e (headSpec wsX3_dishFrom rm_X3_dishFrom).room s m ([.ref (aX 0), .int p1] : List Value).toArray below meth c H1 locs 0 0 (MQ below (q_X3_dishFrom dC dI cI cZ cS aX res (a0 s.heap.size)) ([.ref (aX 0), .int p1] : List Value).toArray s 0 0 (a0 s.heap.size)) (F0 m 43 ls [])) → ∀ (nf : Nat) (x2_2 : Int32) (H1 : Heap) (locs : List Loc), (((T 1) 0)).toInt - (x2_2).toInt ≤ (nf : Int) → f3_dishFrom_L2 T nf x2_2 k = res → va_P (dC, dI) vwCl (wTx cI aX T) H1 → va_D (fun _ => True) (wTx cI aX T) → va_S (a0 s.heap.size) s.heap H1 locs → ∀ (ls : Array Slot), lv_has ls 3 [(2, .int x2_2), (0, .ref (aX 0))] → W p l e (headSpec wsX3_dishFrom rm_X3_dishFrom).room s m ([.ref (aX 0), .int p1] : List Value).toArray below meth c H1 locs 0 0 (MQ below (q_X3_dishFrom dC dI cI cZ cS aX res (a0 s.heap.size)) ([.ref (aX 0), .int p1] : List Value).toArray s 0 0 (a0 s.heap.size)) (F0 m 2 ls []) := by
    intro k hk nf
    induction nf with
    | zero =>
      intro x2_2 H1 locs hfu hR hP hD hS ls hl
      rw [f3_dishFrom_L2] at hR
      refine lv_iload_n hx hb dX3_dishFrom_2 rfl (lv_at hl 0 rfl) ?_
      refine lv_aload_n hx hb dX3_dishFrom_3 rfl (lv_at hl 1 rfl) ?_
      refine va_get (D := (dC, dI)) (ci := 3) (v := .int ((T 1) 0)) (C := RX3) (T := TX3) (N := 2) hx hb hts hin3 hown hK hP 0 rfl rfl 1 (by decide) (hw_ hts 1 rfl) (fun _ h9 => h9) rfl dX3_dishFrom_4 ?_
      refine lv_icmp_ge (tgt := 43) hx hb dX3_dishFrom_7 (by decide) (fun c_1 => ?_) (fun c_1 => ?_)
      · skip
        exact hk  _ _  hR hP hD hS ls (lv_sub hl [] rfl)
      · exact (fuel0 hfu c_1).elim
    | succ nf ih =>
      intro x2_2 H1 locs hfu hR hP hD hS ls hl
      rw [f3_dishFrom_L2] at hR
      refine lv_iload_n hx hb dX3_dishFrom_2 rfl (lv_at hl 0 rfl) ?_
      refine lv_aload_n hx hb dX3_dishFrom_3 rfl (lv_at hl 1 rfl) ?_
      refine va_get (D := (dC, dI)) (ci := 3) (v := .int ((T 1) 0)) (C := RX3) (T := TX3) (N := 2) hx hb hts hin3 hown hK hP 0 rfl rfl 1 (by decide) (hw_ hts 1 rfl) (fun _ h9 => h9) rfl dX3_dishFrom_4 ?_
      refine lv_icmp_ge (tgt := 43) hx hb dX3_dishFrom_7 (by decide) (fun c_2 => ?_) (fun c_2 => ?_)
      · rw [if_pos c_2] at hR
        exact hk  _ _  hR hP hD hS ls (lv_sub hl [] rfl)
      · rw [if_neg c_2] at hR
        have hfu := fuelS hfu c_2
        refine lv_aload_n hx hb dX3_dishFrom_10 rfl (lv_at hl 1 rfl) ?_
        refine va_get (D := (dC, dI)) (ci := 3) (v := .ref (aX 1)) (C := RX3) (T := TX3) (N := 2) hx hb hts hin3 hown hK hP 0 rfl rfl 0 (by decide) (hw_ hts 2 rfl) (fun _ h9 => h9) rfl dX3_dishFrom_11 ?_
        refine lv_iload_n hx hb dX3_dishFrom_14 rfl (lv_at hl 0 rfl) ?_
        refine va_calli (va_runSN (As := [.ref (aX 1), .int x2_2]) (rest := []) ⟨hx, hb, hml, hown, hts⟩ (met_X6_at l dC dI cI cZ cS (aX 1) 60 (by decide) (T 0) H1.size x2_2) ⟨va_cnB 2 hts ggX3_dishFrom_X6_at rfl rfl rfl (hN_3 hN) (hw_ hts 4 rfl) (by decide +kernel) ⟨Nat.le_of_ble_eq_true rfl, Nat.le_of_ble_eq_true rfl⟩, (hw_ hts 3 rfl), trivial⟩ (pS (wc := [((aX 1), .inl (cI, 60, .inl (T 0)))]) hK hP hD hN [1] rfl (by decide)) rfl rfl hl.1 rfl (lv_room (Nat.le_of_ble_eq_true rfl)) dX3_dishFrom_15 ⟨Nat.zero_le _, Nat.zero_le _⟩) hS (fun q _ h => a0_in hS hA q h) (a0_in hS hA) (fun r3 u t H2 locs ht hvm hw hB hz1 hk1 hS => ?_)
        subst hw
        have hP := rdk hP hk1
        refine lv_bipush (v := (61 : Int32)) hx hb dX3_dishFrom_18 (by decide) ?_
        refine lv_icmp_ne (tgt := 37) hx hb dX3_dishFrom_20 (by decide) (fun c_4 => ?_) (fun c_4 => ?_)
        · rw [if_neg c_4] at hR
          refine lv_iinc (v := (x2_2 + 1)) (lv' := [(2, .int (x2_2 + 1)), (0, .ref (aX 0))]) hx hb dX3_dishFrom_37 hl (k := 0) rfl rfl (by decide) rfl (fun ls hl => ?_)
          refine lv_goto (tgt := 2) hx hb dX3_dishFrom_40 (by decide) ?_
          exact ih (x2_2 + 1) _ _ hfu hR hP hD hS ls (lv_sub hl [0, 1] rfl)
        · rw [if_pos c_4] at hR
          refine lv_aload_n hx hb dX3_dishFrom_23 rfl (lv_at hl 1 rfl) ?_
          refine va_get (D := (dC, dI)) (ci := 3) (v := .ref (aX 1)) (C := RX3) (T := TX3) (N := 2) hx hb hts hin3 hown hK hP 0 rfl rfl 0 (by decide) (hw_ hts 2 rfl) (fun _ h9 => h9) rfl dX3_dishFrom_24 ?_
          refine lv_iload_n hx hb dX3_dishFrom_27 rfl (lv_at hl 0 rfl) ?_
          refine lv_iconst (v := (1 : Int32)) hx hb dX3_dishFrom_28 (by decide) ?_
          refine lv_iadd hx hb dX3_dishFrom_29 ?_
          refine va_calli (va_runSN (As := [.ref (aX 1), .int (x2_2 + (1 : Int32))]) (rest := []) ⟨hx, hb, hml, hown, hts⟩ (met_X6_at l dC dI cI cZ cS (aX 1) 60 (by decide) (T 0) H2.size (x2_2 + (1 : Int32))) ⟨va_cnB 2 hts ggX3_dishFrom_X6_at rfl rfl rfl (hN_3 hN) (hw_ hts 4 rfl) (by decide +kernel) ⟨Nat.le_of_ble_eq_true rfl, Nat.le_of_ble_eq_true rfl⟩, (hw_ hts 3 rfl), trivial⟩ (pS (wc := [((aX 1), .inl (cI, 60, .inl (T 0)))]) hK hP hD hN [1] rfl (by decide)) rfl rfl hl.1 rfl (lv_room (Nat.le_of_ble_eq_true rfl)) dX3_dishFrom_30 ⟨Nat.zero_le _, Nat.zero_le _⟩) hS (fun q _ h => a0_in hS hA q h) (a0_in hS hA) (fun r5 u t H3 locs ht hvm hw hB hz1 hk1 hS => ?_)
          subst hw
          have hP := rdk hP hk1
          refine lv_bipush (v := (97 : Int32)) hx hb dX3_dishFrom_33 (by decide) ?_
          refine lv_isub hx hb dX3_dishFrom_35 ?_
          exact W.iret (v := ((f6_at 60 (T 0) (x2_2 + (1 : Int32))) - (97 : Int32))) hx hb hr (fun t ht hW => ⟨⟨((f6_at 60 (T 0) (x2_2 + (1 : Int32))) - (97 : Int32)), (), rfl, hR, trivial⟩, hS.F ht⟩) hS.2.2 dX3_dishFrom_36
  refine LOOP2 (-1 : Int32) (fun H1 locs hR hP hD hS ls hl => ?_) (fuelN p1 ((T 1) 0)) p1 _ _ (fuelE _ _) hR hP hD hS ls (lv_sub hl [0, 1] rfl)
  try dsimp only at hR
  refine lv_iconst (v := (-1 : Int32)) hx hb dX3_dishFrom_43 (by decide) ?_
  exact W.iret (v := (-1 : Int32)) hx hb hr (fun t ht hW => ⟨⟨(-1 : Int32), (), rfl, hR, trivial⟩, hS.F ht⟩) hS.2.2 dX3_dishFrom_44
