abbrev rm_X7_within : Room := { frames := 0, cells := 0, slots := 0, locals := 0 }
abbrev q_X7_within (dC : Nat → ClassId) (dI : Nat → Nat → Nat) (cI cZ cS : ClassId)   (res : Int32) (A : Nat → Prop) : Array Value → State → Outcome → State → Prop := va_Qi (fun (r : Int32) (u : Unit) => r = res ∧ narrow .boolean (.int r) = .int r) (fun _ _ => True) A
set_option maxHeartbeats 4000000 in
set_option maxRecDepth 100000 in
theorem met_X7_within (l : Launch) (dC : Nat → ClassId) (dI : Nat → Nat → Nat) (cI cZ cS : ClassId)  (sz : Nat) (p1 : Int32) (p2 : Int32) (p3 : Int32) : Met l yX7_within wsX7_within rm_X7_within (va_Pc [.int p1, .int p2, .int p3] (pW (dC, dI) (tyS cI cZ cS) ([]) sz)) (q_X7_within dC dI cI cZ cS (f7_within p1 p2 p3) (a0 sz)) 0 0 (a0 sz) := by
  refine Met.ofW (cc := cX7_within) (maxL := 3) (ret := (some .boolean)) (by decide) rfl ?_
  intro p e s m args below meth c s₁ B hml hv
  obtain ⟨rfl, hsz, hP, hK, hD0, hN⟩ := hv
  have hx := B.exec
  have hb := B.bytes
  have hr := B.returns
  have hts := atoms_spec (ws := wsX7_within) B.pre
  have hown : s.vm.findClass RX7 = some m.cls := findClass_of_methodNamed B.named
  have hlocks := B.notSynchronized
  subst hsz
  have hD := hD0
  have hA : ∀ q : Nat, s.heap.size ≤ q → a0 s.heap.size q := fun q h => Or.inr h
  have hS : va_S (a0 s.heap.size) s.heap s.heap [] := va_S.rf
  have hP : va_P (dC, dI) vwCl ([]) s.heap := hP
  generalize hR : f7_within p1 p2 p3 = res
  rw [f7_within] at hR
  have hl := lv_entry ([.int p1, .int p2, .int p3]) (n := 3) (Nat.le_of_ble_eq_true rfl)
  rw [lg_entry_eq]
  generalize (lg_sl ([.int p1, .int p2, .int p3]) ++ List.replicate (3 - (lg_sl ([.int p1, .int p2, .int p3])).length) Slot.unset).toArray = ls at hl ⊢
  have hl : lv_has ls 3 [(0, .int p1), (1, .int p2), (2, .int p3)] := hl
  refine lv_iload_n hx hb dX7_within_0 rfl (lv_at hl 0 rfl) ?_
  refine lv_iload_n hx hb dX7_within_1 rfl (lv_at hl 1 rfl) ?_
  refine lv_icmp_lt (tgt := 14) hx hb dX7_within_2 (by decide) (fun c_1 => ?_) (fun c_1 => ?_)
  · rw [if_pos c_1] at hR
    refine lv_iconst (v := (0 : Int32)) hx hb dX7_within_14 (by decide) ?_
    exact W.zret (v := (0 : Int32)) (ty := .boolean) hx hb hr rfl (fun t ht hW => ⟨⟨(0 : Int32), (), rfl, ⟨hR, rfl⟩, trivial⟩, hS.F ht⟩) hS.2.2 dX7_within_15
  · rw [if_neg c_1] at hR
    refine lv_iload_n hx hb dX7_within_5 rfl (lv_at hl 0 rfl) ?_
    refine lv_iload_n hx hb dX7_within_6 rfl (lv_at hl 2 rfl) ?_
    refine lv_icmp_gt (tgt := 14) hx hb dX7_within_7 (by decide) (fun c_2 => ?_) (fun c_2 => ?_)
    · rw [if_pos c_2] at hR
      refine lv_iconst (v := (0 : Int32)) hx hb dX7_within_14 (by decide) ?_
      exact W.zret (v := (0 : Int32)) (ty := .boolean) hx hb hr rfl (fun t ht hW => ⟨⟨(0 : Int32), (), rfl, ⟨hR, rfl⟩, trivial⟩, hS.F ht⟩) hS.2.2 dX7_within_15
    · rw [if_neg c_2] at hR
      refine lv_iconst (v := (1 : Int32)) hx hb dX7_within_10 (by decide) ?_
      refine lv_goto (tgt := 15) hx hb dX7_within_11 (by decide) ?_
      exact W.zret (v := (1 : Int32)) (ty := .boolean) hx hb hr rfl (fun t ht hW => ⟨⟨(1 : Int32), (), rfl, ⟨hR, rfl⟩, trivial⟩, hS.F ht⟩) hS.2.2 dX7_within_15
abbrev rm_X7_has : Room := { frames := 0, cells := 0, slots := 0, locals := 0 }
abbrev q_X7_has (dC : Nat → ClassId) (dI : Nat → Nat → Nat) (cI cZ cS : ClassId)   (res : Int32) (A : Nat → Prop) : Array Value → State → Outcome → State → Prop := va_Qi (fun (r : Int32) (u : Unit) => r = res ∧ narrow .boolean (.int r) = .int r) (fun _ _ => True) A
set_option maxHeartbeats 4000000 in
set_option maxRecDepth 100000 in
theorem met_X7_has (l : Launch) (dC : Nat → ClassId) (dI : Nat → Nat → Nat) (cI cZ cS : ClassId)  (sz : Nat) (p1 : Int32) (p2 : Int32) : Met l yX7_has wsX7_has rm_X7_has (va_Pc [.int p1, .int p2] (pW (dC, dI) (tyS cI cZ cS) ([]) sz)) (q_X7_has dC dI cI cZ cS (f7_has p1 p2) (a0 sz)) 0 0 (a0 sz) := by
  refine Met.ofW (cc := cX7_has) (maxL := 2) (ret := (some .boolean)) (by decide) rfl ?_
  intro p e s m args below meth c s₁ B hml hv
  obtain ⟨rfl, hsz, hP, hK, hD0, hN⟩ := hv
  have hx := B.exec
  have hb := B.bytes
  have hr := B.returns
  have hts := atoms_spec (ws := wsX7_has) B.pre
  have hown : s.vm.findClass RX7 = some m.cls := findClass_of_methodNamed B.named
  have hlocks := B.notSynchronized
  subst hsz
  have hD := hD0
  have hA : ∀ q : Nat, s.heap.size ≤ q → a0 s.heap.size q := fun q h => Or.inr h
  have hS : va_S (a0 s.heap.size) s.heap s.heap [] := va_S.rf
  have hP : va_P (dC, dI) vwCl ([]) s.heap := hP
  generalize hR : f7_has p1 p2 = res
  rw [f7_has] at hR
  have hl := lv_entry ([.int p1, .int p2]) (n := 2) (Nat.le_of_ble_eq_true rfl)
  rw [lg_entry_eq]
  generalize (lg_sl ([.int p1, .int p2]) ++ List.replicate (2 - (lg_sl ([.int p1, .int p2])).length) Slot.unset).toArray = ls at hl ⊢
  have hl : lv_has ls 2 [(0, .int p1), (1, .int p2)] := hl
  refine lv_iload_n hx hb dX7_has_0 rfl (lv_at hl 0 rfl) ?_
  refine lv_iload_n hx hb dX7_has_1 rfl (lv_at hl 1 rfl) ?_
  refine lv_ishr hx hb dX7_has_2 ?_
  refine lv_iconst (v := (1 : Int32)) hx hb dX7_has_3 (by decide) ?_
  refine lv_iand hx hb dX7_has_4 ?_
  refine lv_iconst (v := (1 : Int32)) hx hb dX7_has_5 (by decide) ?_
  refine lv_icmp_ne (tgt := 13) hx hb dX7_has_6 (by decide) (fun c_1 => ?_) (fun c_1 => ?_)
  · rw [if_neg c_1] at hR
    refine lv_iconst (v := (0 : Int32)) hx hb dX7_has_13 (by decide) ?_
    exact W.zret (v := (0 : Int32)) (ty := .boolean) hx hb hr rfl (fun t ht hW => ⟨⟨(0 : Int32), (), rfl, ⟨hR, rfl⟩, trivial⟩, hS.F ht⟩) hS.2.2 dX7_has_14
  · rw [if_pos c_1] at hR
    refine lv_iconst (v := (1 : Int32)) hx hb dX7_has_9 (by decide) ?_
    refine lv_goto (tgt := 14) hx hb dX7_has_10 (by decide) ?_
    exact W.zret (v := (1 : Int32)) (ty := .boolean) hx hb hr rfl (fun t ht hW => ⟨⟨(1 : Int32), (), rfl, ⟨hR, rfl⟩, trivial⟩, hS.F ht⟩) hS.2.2 dX7_has_14
abbrev rm_X7_isDay : Room := { frames := 1, cells := 0, slots := 0, locals := 22 }
abbrev q_X7_isDay (dC : Nat → ClassId) (dI : Nat → Nat → Nat) (cI cZ cS : ClassId)   (res : Int32) (A : Nat → Prop) : Array Value → State → Outcome → State → Prop := va_Qi (fun (r : Int32) (u : Unit) => r = res ∧ narrow .boolean (.int r) = .int r) (fun _ _ => True) A
set_option maxHeartbeats 4000000 in
set_option maxRecDepth 100000 in
theorem met_X7_isDay (l : Launch) (dC : Nat → ClassId) (dI : Nat → Nat → Nat) (cI cZ cS : ClassId)  (sz : Nat) (p1 : Int32) : Met l yX7_isDay wsX7_isDay rm_X7_isDay (va_Pc [.int p1] (pW (dC, dI) (tyS cI cZ cS) ([]) sz)) (q_X7_isDay dC dI cI cZ cS (f7_isDay p1) (a0 sz)) 0 0 (a0 sz) := by
  refine Met.ofW (cc := cX7_isDay) (maxL := 1) (ret := (some .boolean)) (by decide) rfl ?_
  intro p e s m args below meth c s₁ B hml hv
  obtain ⟨rfl, hsz, hP, hK, hD0, hN⟩ := hv
  have hx := B.exec
  have hb := B.bytes
  have hr := B.returns
  have hts := atoms_spec (ws := wsX7_isDay) B.pre
  have hown : s.vm.findClass RX7 = some m.cls := findClass_of_methodNamed B.named
  have hlocks := B.notSynchronized
  subst hsz
  have hD := hD0
  have hA : ∀ q : Nat, s.heap.size ≤ q → a0 s.heap.size q := fun q h => Or.inr h
  have hS : va_S (a0 s.heap.size) s.heap s.heap [] := va_S.rf
  have hP : va_P (dC, dI) vwCl ([]) s.heap := hP
  generalize hR : f7_isDay p1 = res
  rw [f7_isDay] at hR
  have hl := lv_entry ([.int p1]) (n := 1) (Nat.le_of_ble_eq_true rfl)
  rw [lg_entry_eq]
  generalize (lg_sl ([.int p1]) ++ List.replicate (1 - (lg_sl ([.int p1])).length) Slot.unset).toArray = ls at hl ⊢
  have hl : lv_has ls 1 [(0, .int p1)] := hl
  refine lv_iload_n hx hb dX7_isDay_0 rfl (lv_at hl 0 rfl) ?_
  refine lv_iconst (v := (0 : Int32)) hx hb dX7_isDay_1 (by decide) ?_
  refine lv_bipush (v := (27 : Int32)) hx hb dX7_isDay_2 (by decide) ?_
  refine va_calli (va_runS (As := [.int p1, .int (0 : Int32), .int (27 : Int32)]) (rest := []) ⟨hx, hb, hml, hown, hts⟩ (met_X7_within l dC dI cI cZ cS s.heap.size p1 (0 : Int32) (27 : Int32)) (va_cwS 3 hts gX7_isDay_X7_within rfl rfl rfl (by decide +kernel) ⟨Nat.le_of_ble_eq_true rfl, Nat.le_of_ble_eq_true rfl⟩) (pS (wc := []) hK hP hD hN [] rfl (by decide)) rfl rfl hl.1 rfl (lv_room (Nat.le_of_ble_eq_true rfl)) dX7_isDay_4 ⟨Nat.zero_le _, Nat.zero_le _⟩) hS (fun q _ h => a0_in hS hA q h) (a0_in hS hA) (fun r1 u t H1 locs ht hvm hw hB hz1 hk1 hS => ?_)
  obtain ⟨hw, nb2⟩ := hw
  subst hw
  have hP := rdk hP hk1
  exact W.zret (v := (f7_within p1 (0 : Int32) (27 : Int32))) (ty := .boolean) hx hb hr nb2 (fun t ht hW => ⟨⟨(f7_within p1 (0 : Int32) (27 : Int32)), (), rfl, ⟨hR, nb2⟩, trivial⟩, hS.F ht⟩) hS.2.2 dX7_isDay_7
abbrev rm_X7_isPart : Room := { frames := 1, cells := 0, slots := 0, locals := 22 }
abbrev q_X7_isPart (dC : Nat → ClassId) (dI : Nat → Nat → Nat) (cI cZ cS : ClassId)   (res : Int32) (A : Nat → Prop) : Array Value → State → Outcome → State → Prop := va_Qi (fun (r : Int32) (u : Unit) => r = res ∧ narrow .boolean (.int r) = .int r) (fun _ _ => True) A
set_option maxHeartbeats 4000000 in
set_option maxRecDepth 100000 in
theorem met_X7_isPart (l : Launch) (dC : Nat → ClassId) (dI : Nat → Nat → Nat) (cI cZ cS : ClassId)  (sz : Nat) (p1 : Int32) : Met l yX7_isPart wsX7_isPart rm_X7_isPart (va_Pc [.int p1] (pW (dC, dI) (tyS cI cZ cS) ([]) sz)) (q_X7_isPart dC dI cI cZ cS (f7_isPart p1) (a0 sz)) 0 0 (a0 sz) := by
  refine Met.ofW (cc := cX7_isPart) (maxL := 1) (ret := (some .boolean)) (by decide) rfl ?_
  intro p e s m args below meth c s₁ B hml hv
  obtain ⟨rfl, hsz, hP, hK, hD0, hN⟩ := hv
  have hx := B.exec
  have hb := B.bytes
  have hr := B.returns
  have hts := atoms_spec (ws := wsX7_isPart) B.pre
  have hown : s.vm.findClass RX7 = some m.cls := findClass_of_methodNamed B.named
  have hlocks := B.notSynchronized
  subst hsz
  have hD := hD0
  have hA : ∀ q : Nat, s.heap.size ≤ q → a0 s.heap.size q := fun q h => Or.inr h
  have hS : va_S (a0 s.heap.size) s.heap s.heap [] := va_S.rf
  have hP : va_P (dC, dI) vwCl ([]) s.heap := hP
  generalize hR : f7_isPart p1 = res
  rw [f7_isPart] at hR
  have hl := lv_entry ([.int p1]) (n := 1) (Nat.le_of_ble_eq_true rfl)
  rw [lg_entry_eq]
  generalize (lg_sl ([.int p1]) ++ List.replicate (1 - (lg_sl ([.int p1])).length) Slot.unset).toArray = ls at hl ⊢
  have hl : lv_has ls 1 [(0, .int p1)] := hl
  refine lv_iload_n hx hb dX7_isPart_0 rfl (lv_at hl 0 rfl) ?_
  refine lv_iconst (v := (0 : Int32)) hx hb dX7_isPart_1 (by decide) ?_
  refine lv_iconst (v := (2 : Int32)) hx hb dX7_isPart_2 (by decide) ?_
  refine va_calli (va_runS (As := [.int p1, .int (0 : Int32), .int (2 : Int32)]) (rest := []) ⟨hx, hb, hml, hown, hts⟩ (met_X7_within l dC dI cI cZ cS s.heap.size p1 (0 : Int32) (2 : Int32)) (va_cwS 3 hts gX7_isPart_X7_within rfl rfl rfl (by decide +kernel) ⟨Nat.le_of_ble_eq_true rfl, Nat.le_of_ble_eq_true rfl⟩) (pS (wc := []) hK hP hD hN [] rfl (by decide)) rfl rfl hl.1 rfl (lv_room (Nat.le_of_ble_eq_true rfl)) dX7_isPart_3 ⟨Nat.zero_le _, Nat.zero_le _⟩) hS (fun q _ h => a0_in hS hA q h) (a0_in hS hA) (fun r1 u t H1 locs ht hvm hw hB hz1 hk1 hS => ?_)
  obtain ⟨hw, nb2⟩ := hw
  subst hw
  have hP := rdk hP hk1
  exact W.zret (v := (f7_within p1 (0 : Int32) (2 : Int32))) (ty := .boolean) hx hb hr nb2 (fun t ht hW => ⟨⟨(f7_within p1 (0 : Int32) (2 : Int32)), (), rfl, ⟨hR, nb2⟩, trivial⟩, hS.F ht⟩) hS.2.2 dX7_isPart_6
abbrev rm_X7_isSetting : Room := { frames := 1, cells := 0, slots := 0, locals := 22 }
abbrev q_X7_isSetting (dC : Nat → ClassId) (dI : Nat → Nat → Nat) (cI cZ cS : ClassId)   (res : Int32) (A : Nat → Prop) : Array Value → State → Outcome → State → Prop := va_Qi (fun (r : Int32) (u : Unit) => r = res ∧ narrow .boolean (.int r) = .int r) (fun _ _ => True) A
set_option maxHeartbeats 4000000 in
set_option maxRecDepth 100000 in
theorem met_X7_isSetting (l : Launch) (dC : Nat → ClassId) (dI : Nat → Nat → Nat) (cI cZ cS : ClassId)  (sz : Nat) (p1 : Int32) : Met l yX7_isSetting wsX7_isSetting rm_X7_isSetting (va_Pc [.int p1] (pW (dC, dI) (tyS cI cZ cS) ([]) sz)) (q_X7_isSetting dC dI cI cZ cS (f7_isSetting p1) (a0 sz)) 0 0 (a0 sz) := by
  refine Met.ofW (cc := cX7_isSetting) (maxL := 1) (ret := (some .boolean)) (by decide) rfl ?_
  intro p e s m args below meth c s₁ B hml hv
  obtain ⟨rfl, hsz, hP, hK, hD0, hN⟩ := hv
  have hx := B.exec
  have hb := B.bytes
  have hr := B.returns
  have hts := atoms_spec (ws := wsX7_isSetting) B.pre
  have hown : s.vm.findClass RX7 = some m.cls := findClass_of_methodNamed B.named
  have hlocks := B.notSynchronized
  subst hsz
  have hD := hD0
  have hA : ∀ q : Nat, s.heap.size ≤ q → a0 s.heap.size q := fun q h => Or.inr h
  have hS : va_S (a0 s.heap.size) s.heap s.heap [] := va_S.rf
  have hP : va_P (dC, dI) vwCl ([]) s.heap := hP
  generalize hR : f7_isSetting p1 = res
  rw [f7_isSetting] at hR
  have hl := lv_entry ([.int p1]) (n := 1) (Nat.le_of_ble_eq_true rfl)
  rw [lg_entry_eq]
  generalize (lg_sl ([.int p1]) ++ List.replicate (1 - (lg_sl ([.int p1])).length) Slot.unset).toArray = ls at hl ⊢
  have hl : lv_has ls 1 [(0, .int p1)] := hl
  refine lv_iload_n hx hb dX7_isSetting_0 rfl (lv_at hl 0 rfl) ?_
  refine lv_iconst (v := (0 : Int32)) hx hb dX7_isSetting_1 (by decide) ?_
  refine lv_iconst (v := (2 : Int32)) hx hb dX7_isSetting_2 (by decide) ?_
  refine va_calli (va_runS (As := [.int p1, .int (0 : Int32), .int (2 : Int32)]) (rest := []) ⟨hx, hb, hml, hown, hts⟩ (met_X7_within l dC dI cI cZ cS s.heap.size p1 (0 : Int32) (2 : Int32)) (va_cwS 3 hts gX7_isSetting_X7_within rfl rfl rfl (by decide +kernel) ⟨Nat.le_of_ble_eq_true rfl, Nat.le_of_ble_eq_true rfl⟩) (pS (wc := []) hK hP hD hN [] rfl (by decide)) rfl rfl hl.1 rfl (lv_room (Nat.le_of_ble_eq_true rfl)) dX7_isSetting_3 ⟨Nat.zero_le _, Nat.zero_le _⟩) hS (fun q _ h => a0_in hS hA q h) (a0_in hS hA) (fun r1 u t H1 locs ht hvm hw hB hz1 hk1 hS => ?_)
  obtain ⟨hw, nb2⟩ := hw
  subst hw
  have hP := rdk hP hk1
  exact W.zret (v := (f7_within p1 (0 : Int32) (2 : Int32))) (ty := .boolean) hx hb hr nb2 (fun t ht hW => ⟨⟨(f7_within p1 (0 : Int32) (2 : Int32)), (), rfl, ⟨hR, nb2⟩, trivial⟩, hS.F ht⟩) hS.2.2 dX7_isSetting_6
abbrev rm_X7_isValue : Room := { frames := 1, cells := 0, slots := 0, locals := 22 }
abbrev q_X7_isValue (dC : Nat → ClassId) (dI : Nat → Nat → Nat) (cI cZ cS : ClassId)   (res : Int32) (A : Nat → Prop) : Array Value → State → Outcome → State → Prop := va_Qi (fun (r : Int32) (u : Unit) => r = res ∧ narrow .boolean (.int r) = .int r) (fun _ _ => True) A
set_option maxHeartbeats 4000000 in
set_option maxRecDepth 100000 in
theorem met_X7_isValue (l : Launch) (dC : Nat → ClassId) (dI : Nat → Nat → Nat) (cI cZ cS : ClassId)  (sz : Nat) (p1 : Int32) (p2 : Int32) : Met l yX7_isValue wsX7_isValue rm_X7_isValue (va_Pc [.int p1, .int p2] (pW (dC, dI) (tyS cI cZ cS) ([]) sz)) (q_X7_isValue dC dI cI cZ cS (f7_isValue p1 p2) (a0 sz)) 0 0 (a0 sz) := by
  refine Met.ofW (cc := cX7_isValue) (maxL := 2) (ret := (some .boolean)) (by decide) rfl ?_
  intro p e s m args below meth c s₁ B hml hv
  obtain ⟨rfl, hsz, hP, hK, hD0, hN⟩ := hv
  have hx := B.exec
  have hb := B.bytes
  have hr := B.returns
  have hts := atoms_spec (ws := wsX7_isValue) B.pre
  have hown : s.vm.findClass RX7 = some m.cls := findClass_of_methodNamed B.named
  have hlocks := B.notSynchronized
  subst hsz
  have hD := hD0
  have hA : ∀ q : Nat, s.heap.size ≤ q → a0 s.heap.size q := fun q h => Or.inr h
  have hS : va_S (a0 s.heap.size) s.heap s.heap [] := va_S.rf
  have hP : va_P (dC, dI) vwCl ([]) s.heap := hP
  generalize hR : f7_isValue p1 p2 = res
  rw [f7_isValue] at hR
  have hl := lv_entry ([.int p1, .int p2]) (n := 2) (Nat.le_of_ble_eq_true rfl)
  rw [lg_entry_eq]
  generalize (lg_sl ([.int p1, .int p2]) ++ List.replicate (2 - (lg_sl ([.int p1, .int p2])).length) Slot.unset).toArray = ls at hl ⊢
  have hl : lv_has ls 2 [(0, .int p1), (1, .int p2)] := hl
  refine lv_iload_n hx hb dX7_isValue_0 rfl (lv_at hl 0 rfl) ?_
  refine lv_if_ne (tgt := 14) hx hb dX7_isValue_1 (by decide) (fun c_1 => ?_) (fun c_1 => ?_)
  · rw [if_neg c_1] at hR
    refine lv_iload_n hx hb dX7_isValue_14 rfl (lv_at hl 0 rfl) ?_
    refine lv_iconst (v := (1 : Int32)) hx hb dX7_isValue_15 (by decide) ?_
    refine lv_icmp_ne (tgt := 29) hx hb dX7_isValue_16 (by decide) (fun c_2 => ?_) (fun c_2 => ?_)
    · rw [if_neg c_2] at hR
      refine lv_iload_n hx hb dX7_isValue_29 rfl (lv_at hl 1 rfl) ?_
      refine lv_iconst (v := (0 : Int32)) hx hb dX7_isValue_30 (by decide) ?_
      refine lv_sipush (v := (999 : Int32)) hx hb dX7_isValue_31 (by decide) ?_
      refine va_calli (va_runS (As := [.int p2, .int (0 : Int32), .int (999 : Int32)]) (rest := []) ⟨hx, hb, hml, hown, hts⟩ (met_X7_within l dC dI cI cZ cS s.heap.size p2 (0 : Int32) (999 : Int32)) (va_cwS 3 hts gX7_isValue_X7_within rfl rfl rfl (by decide +kernel) ⟨Nat.le_of_ble_eq_true rfl, Nat.le_of_ble_eq_true rfl⟩) (pS (wc := []) hK hP hD hN [] rfl (by decide)) rfl rfl hl.1 rfl (lv_room (Nat.le_of_ble_eq_true rfl)) dX7_isValue_34 ⟨Nat.zero_le _, Nat.zero_le _⟩) hS (fun q _ h => a0_in hS hA q h) (a0_in hS hA) (fun r3 u t H1 locs ht hvm hw hB hz1 hk1 hS => ?_)
      obtain ⟨hw, nb4⟩ := hw
      subst hw
      have hP := rdk hP hk1
      exact W.zret (v := (f7_within p2 (0 : Int32) (999 : Int32))) (ty := .boolean) hx hb hr nb4 (fun t ht hW => ⟨⟨(f7_within p2 (0 : Int32) (999 : Int32)), (), rfl, ⟨hR, nb4⟩, trivial⟩, hS.F ht⟩) hS.2.2 dX7_isValue_37
    · rw [if_pos c_2] at hR
      refine lv_iload_n hx hb dX7_isValue_19 rfl (lv_at hl 1 rfl) ?_
      refine lv_iconst (v := (1 : Int32)) hx hb dX7_isValue_20 (by decide) ?_
      refine lv_bipush (v := (10 : Int32)) hx hb dX7_isValue_21 (by decide) ?_
      refine va_calli (va_runS (As := [.int p2, .int (1 : Int32), .int (10 : Int32)]) (rest := []) ⟨hx, hb, hml, hown, hts⟩ (met_X7_within l dC dI cI cZ cS s.heap.size p2 (1 : Int32) (10 : Int32)) (va_cwS 3 hts gX7_isValue_X7_within rfl rfl rfl (by decide +kernel) ⟨Nat.le_of_ble_eq_true rfl, Nat.le_of_ble_eq_true rfl⟩) (pS (wc := []) hK hP hD hN [] rfl (by decide)) rfl rfl hl.1 rfl (lv_room (Nat.le_of_ble_eq_true rfl)) dX7_isValue_23 ⟨Nat.zero_le _, Nat.zero_le _⟩) hS (fun q _ h => a0_in hS hA q h) (a0_in hS hA) (fun r5 u t H1 locs ht hvm hw hB hz1 hk1 hS => ?_)
      obtain ⟨hw, nb6⟩ := hw
      subst hw
      have hP := rdk hP hk1
      refine lv_goto (tgt := 37) hx hb dX7_isValue_26 (by decide) ?_
      exact W.zret (v := (f7_within p2 (1 : Int32) (10 : Int32))) (ty := .boolean) hx hb hr nb6 (fun t ht hW => ⟨⟨(f7_within p2 (1 : Int32) (10 : Int32)), (), rfl, ⟨hR, nb6⟩, trivial⟩, hS.F ht⟩) hS.2.2 dX7_isValue_37
  · rw [if_pos c_1] at hR
    refine lv_iload_n hx hb dX7_isValue_4 rfl (lv_at hl 1 rfl) ?_
    refine lv_iconst (v := (0 : Int32)) hx hb dX7_isValue_5 (by decide) ?_
    refine lv_bipush (v := (9 : Int32)) hx hb dX7_isValue_6 (by decide) ?_
    refine va_calli (va_runS (As := [.int p2, .int (0 : Int32), .int (9 : Int32)]) (rest := []) ⟨hx, hb, hml, hown, hts⟩ (met_X7_within l dC dI cI cZ cS s.heap.size p2 (0 : Int32) (9 : Int32)) (va_cwS 3 hts gX7_isValue_X7_within rfl rfl rfl (by decide +kernel) ⟨Nat.le_of_ble_eq_true rfl, Nat.le_of_ble_eq_true rfl⟩) (pS (wc := []) hK hP hD hN [] rfl (by decide)) rfl rfl hl.1 rfl (lv_room (Nat.le_of_ble_eq_true rfl)) dX7_isValue_8 ⟨Nat.zero_le _, Nat.zero_le _⟩) hS (fun q _ h => a0_in hS hA q h) (a0_in hS hA) (fun r7 u t H1 locs ht hvm hw hB hz1 hk1 hS => ?_)
    obtain ⟨hw, nb8⟩ := hw
    subst hw
    have hP := rdk hP hk1
    refine lv_goto (tgt := 37) hx hb dX7_isValue_11 (by decide) ?_
    exact W.zret (v := (f7_within p2 (0 : Int32) (9 : Int32))) (ty := .boolean) hx hb hr nb8 (fun t ht hW => ⟨⟨(f7_within p2 (0 : Int32) (9 : Int32)), (), rfl, ⟨hR, nb8⟩, trivial⟩, hS.F ht⟩) hS.2.2 dX7_isValue_37
abbrev rm_X7_isSnapshot : Room := { frames := 1, cells := 0, slots := 0, locals := 22 }
abbrev q_X7_isSnapshot (dC : Nat → ClassId) (dI : Nat → Nat → Nat) (cI cZ cS : ClassId)   (res : Int32) (A : Nat → Prop) : Array Value → State → Outcome → State → Prop := va_Qi (fun (r : Int32) (u : Unit) => r = res ∧ narrow .boolean (.int r) = .int r) (fun _ _ => True) A
set_option maxHeartbeats 4000000 in
set_option maxRecDepth 100000 in
theorem met_X7_isSnapshot (l : Launch) (dC : Nat → ClassId) (dI : Nat → Nat → Nat) (cI cZ cS : ClassId)  (sz : Nat) (p1 : Int32) : Met l yX7_isSnapshot wsX7_isSnapshot rm_X7_isSnapshot (va_Pc [.int p1] (pW (dC, dI) (tyS cI cZ cS) ([]) sz)) (q_X7_isSnapshot dC dI cI cZ cS (f7_isSnapshot p1) (a0 sz)) 0 0 (a0 sz) := by
  refine Met.ofW (cc := cX7_isSnapshot) (maxL := 1) (ret := (some .boolean)) (by decide) rfl ?_
  intro p e s m args below meth c s₁ B hml hv
  obtain ⟨rfl, hsz, hP, hK, hD0, hN⟩ := hv
  have hx := B.exec
  have hb := B.bytes
  have hr := B.returns
  have hts := atoms_spec (ws := wsX7_isSnapshot) B.pre
  have hown : s.vm.findClass RX7 = some m.cls := findClass_of_methodNamed B.named
  have hlocks := B.notSynchronized
  subst hsz
  have hD := hD0
  have hA : ∀ q : Nat, s.heap.size ≤ q → a0 s.heap.size q := fun q h => Or.inr h
  have hS : va_S (a0 s.heap.size) s.heap s.heap [] := va_S.rf
  have hP : va_P (dC, dI) vwCl ([]) s.heap := hP
  generalize hR : f7_isSnapshot p1 = res
  rw [f7_isSnapshot] at hR
  have hl := lv_entry ([.int p1]) (n := 1) (Nat.le_of_ble_eq_true rfl)
  rw [lg_entry_eq]
  generalize (lg_sl ([.int p1]) ++ List.replicate (1 - (lg_sl ([.int p1])).length) Slot.unset).toArray = ls at hl ⊢
  have hl : lv_has ls 1 [(0, .int p1)] := hl
  refine lv_iload_n hx hb dX7_isSnapshot_0 rfl (lv_at hl 0 rfl) ?_
  refine lv_iconst (v := (0 : Int32)) hx hb dX7_isSnapshot_1 (by decide) ?_
  refine lv_iconst (v := (1 : Int32)) hx hb dX7_isSnapshot_2 (by decide) ?_
  refine va_calli (va_runS (As := [.int p1, .int (0 : Int32), .int (1 : Int32)]) (rest := []) ⟨hx, hb, hml, hown, hts⟩ (met_X7_within l dC dI cI cZ cS s.heap.size p1 (0 : Int32) (1 : Int32)) (va_cwS 3 hts gX7_isSnapshot_X7_within rfl rfl rfl (by decide +kernel) ⟨Nat.le_of_ble_eq_true rfl, Nat.le_of_ble_eq_true rfl⟩) (pS (wc := []) hK hP hD hN [] rfl (by decide)) rfl rfl hl.1 rfl (lv_room (Nat.le_of_ble_eq_true rfl)) dX7_isSnapshot_3 ⟨Nat.zero_le _, Nat.zero_le _⟩) hS (fun q _ h => a0_in hS hA q h) (a0_in hS hA) (fun r1 u t H1 locs ht hvm hw hB hz1 hk1 hS => ?_)
  obtain ⟨hw, nb2⟩ := hw
  subst hw
  have hP := rdk hP hk1
  exact W.zret (v := (f7_within p1 (0 : Int32) (1 : Int32))) (ty := .boolean) hx hb hr nb2 (fun t ht hW => ⟨⟨(f7_within p1 (0 : Int32) (1 : Int32)), (), rfl, ⟨hR, nb2⟩, trivial⟩, hS.F ht⟩) hS.2.2 dX7_isSnapshot_6
abbrev rm_X7_many : Room := { frames := 0, cells := 0, slots := 0, locals := 0 }
abbrev q_X7_many (dC : Nat → ClassId) (dI : Nat → Nat → Nat) (cI cZ cS : ClassId)   (res : Int32) (A : Nat → Prop) : Array Value → State → Outcome → State → Prop := va_Qi (fun (r : Int32) (u : Unit) => r = res) (fun _ _ => True) A
set_option maxHeartbeats 4000000 in
set_option maxRecDepth 100000 in
theorem met_X7_many (l : Launch) (dC : Nat → ClassId) (dI : Nat → Nat → Nat) (cI cZ cS : ClassId)  (sz : Nat) (p1 : Int32) : Met l yX7_many wsX7_many rm_X7_many (va_Pc [.int p1] (pW (dC, dI) (tyS cI cZ cS) ([]) sz)) (q_X7_many dC dI cI cZ cS (f7_many p1) (a0 sz)) 0 0 (a0 sz) := by
  refine Met.ofW (cc := cX7_many) (maxL := 1) (ret := (some .int)) (by decide) rfl ?_
  intro p e s m args below meth c s₁ B hml hv
  obtain ⟨rfl, hsz, hP, hK, hD0, hN⟩ := hv
  have hx := B.exec
  have hb := B.bytes
  have hr := B.returns
  have hts := atoms_spec (ws := wsX7_many) B.pre
  have hown : s.vm.findClass RX7 = some m.cls := findClass_of_methodNamed B.named
  have hlocks := B.notSynchronized
  subst hsz
  have hD := hD0
  have hA : ∀ q : Nat, s.heap.size ≤ q → a0 s.heap.size q := fun q h => Or.inr h
  have hS : va_S (a0 s.heap.size) s.heap s.heap [] := va_S.rf
  have hP : va_P (dC, dI) vwCl ([]) s.heap := hP
  generalize hR : f7_many p1 = res
  rw [f7_many] at hR
  have hl := lv_entry ([.int p1]) (n := 1) (Nat.le_of_ble_eq_true rfl)
  rw [lg_entry_eq]
  generalize (lg_sl ([.int p1]) ++ List.replicate (1 - (lg_sl ([.int p1])).length) Slot.unset).toArray = ls at hl ⊢
  have hl : lv_has ls 1 [(0, .int p1)] := hl
  refine lv_iload_n hx hb dX7_many_0 rfl (lv_at hl 0 rfl) ?_
  refine lv_iconst (v := (-1 : Int32)) hx hb dX7_many_1 (by decide) ?_
  refine lv_icmp_ne (tgt := 9) hx hb dX7_many_2 (by decide) (fun c_1 => ?_) (fun c_1 => ?_)
  · rw [if_neg c_1] at hR
    refine lv_iconst (v := (1 : Int32)) hx hb dX7_many_9 (by decide) ?_
    exact W.iret (v := (1 : Int32)) hx hb hr (fun t ht hW => ⟨⟨(1 : Int32), (), rfl, hR, trivial⟩, hS.F ht⟩) hS.2.2 dX7_many_10
  · rw [if_pos c_1] at hR
    refine lv_iconst (v := (0 : Int32)) hx hb dX7_many_5 (by decide) ?_
    refine lv_goto (tgt := 10) hx hb dX7_many_6 (by decide) ?_
    exact W.iret (v := (0 : Int32)) hx hb hr (fun t ht hW => ⟨⟨(0 : Int32), (), rfl, hR, trivial⟩, hS.F ht⟩) hS.2.2 dX7_many_10
abbrev rm_X7_thrown : Room := { frames := 0, cells := 0, slots := 0, locals := 0 }
abbrev q_X7_thrown (dC : Nat → ClassId) (dI : Nat → Nat → Nat) (cI cZ cS : ClassId) (aM : Nat → Nat)  (res : Int32) (A : Nat → Prop) : Array Value → State → Outcome → State → Prop := va_Qi (fun (r : Int32) (u : Unit) => r = res) (fun _ _ => True) A
set_option maxHeartbeats 4000000 in
set_option maxRecDepth 100000 in
theorem met_X7_thrown (l : Launch) (dC : Nat → ClassId) (dI : Nat → Nat → Nat) (cI cZ cS : ClassId) (aM : Nat → Nat) (M : Pic) (hs : Int64) (sz : Nat)  : Met l yX7_thrown wsX7_thrown rm_X7_thrown (va_Pc [.ref (aM 0)] (pW (dC, dI) (tyS cI cZ cS) (wMo cI aM M hs) sz)) (q_X7_thrown dC dI cI cZ cS aM (f7_thrown M) (a0 sz)) 0 0 (a0 sz) := by
  refine Met.ofW (cc := cX7_thrown) (maxL := 1) (ret := (some .int)) (by decide) rfl ?_
  intro p e s m args below meth c s₁ B hml hv
  obtain ⟨rfl, hsz, hP, hK, hD0, hN⟩ := hv
  have hx := B.exec
  have hb := B.bytes
  have hr := B.returns
  have hts := atoms_spec (ws := wsX7_thrown) B.pre
  have hown : s.vm.findClass RX7 = some m.cls := findClass_of_methodNamed B.named
  have hlocks := B.notSynchronized
  subst hsz
  have hD := hD0
  have hA : ∀ q : Nat, s.heap.size ≤ q → a0 s.heap.size q := fun q h => Or.inr h
  have hS : va_S (a0 s.heap.size) s.heap s.heap [] := va_S.rf
  have hP : va_P (dC, dI) vwCl (wMo cI aM M hs) s.heap := hP
  generalize hR : f7_thrown M = res
  rw [f7_thrown] at hR
  have hin7 : ∀ w ∈ wsX70, w ∈ wsX7_thrown := by decide +kernel
  have hl := lv_entry ([.ref (aM 0)]) (n := 1) (Nat.le_of_ble_eq_true rfl)
  rw [lg_entry_eq]
  generalize (lg_sl ([.ref (aM 0)]) ++ List.replicate (1 - (lg_sl ([.ref (aM 0)])).length) Slot.unset).toArray = ls at hl ⊢
  have hl : lv_has ls 1 [(0, .ref (aM 0))] := hl
  refine lv_aload_n hx hb dX7_thrown_0 rfl (lv_at hl 0 rfl) ?_
  refine va_get (D := (dC, dI)) (ci := 7) (v := .int ((M 7) 0)) (C := RX7) (T := TX7) (N := 15) hx hb hts hin7 hown hK hP 0 rfl rfl 7 (by decide) (hw_ hts 1 rfl) (fun _ h9 => h9) rfl dX7_thrown_1 ?_
  exact W.iret (v := ((M 7) 0)) hx hb hr (fun t ht hW => ⟨⟨((M 7) 0), (), rfl, hR, trivial⟩, hS.F ht⟩) hS.2.2 dX7_thrown_4
abbrev rm_X7_isDish : Room := { frames := 1, cells := 0, slots := 0, locals := 22 }
abbrev q_X7_isDish (dC : Nat → ClassId) (dI : Nat → Nat → Nat) (cI cZ cS : ClassId) (aM : Nat → Nat)  (res : Int32) (A : Nat → Prop) : Array Value → State → Outcome → State → Prop := va_Qi (fun (r : Int32) (u : Unit) => r = res ∧ narrow .boolean (.int r) = .int r) (fun _ _ => True) A
set_option maxHeartbeats 4000000 in
set_option maxRecDepth 100000 in
theorem met_X7_isDish (l : Launch) (dC : Nat → ClassId) (dI : Nat → Nat → Nat) (cI cZ cS : ClassId) (aM : Nat → Nat) (M : Pic) (hs : Int64) (sz : Nat) (p1 : Int32) : Met l yX7_isDish wsX7_isDish rm_X7_isDish (va_Pc [.ref (aM 0), .int p1] (pW (dC, dI) (tyS cI cZ cS) (wMo cI aM M hs) sz)) (q_X7_isDish dC dI cI cZ cS aM (f7_isDish M p1) (a0 sz)) 0 0 (a0 sz) := by
  refine Met.ofW (cc := cX7_isDish) (maxL := 2) (ret := (some .boolean)) (by decide) rfl ?_
  intro p e s m args below meth c s₁ B hml hv
  obtain ⟨rfl, hsz, hP, hK, hD0, hN⟩ := hv
  have hx := B.exec
  have hb := B.bytes
  have hr := B.returns
  have hts := atoms_spec (ws := wsX7_isDish) B.pre
  have hown : s.vm.findClass RX7 = some m.cls := findClass_of_methodNamed B.named
  have hlocks := B.notSynchronized
  subst hsz
  have hD := hD0
  have hA : ∀ q : Nat, s.heap.size ≤ q → a0 s.heap.size q := fun q h => Or.inr h
  have hS : va_S (a0 s.heap.size) s.heap s.heap [] := va_S.rf
  have hP : va_P (dC, dI) vwCl (wMo cI aM M hs) s.heap := hP
  generalize hR : f7_isDish M p1 = res
  rw [f7_isDish] at hR
  have hin7 : ∀ w ∈ wsX70, w ∈ wsX7_isDish := by decide +kernel
  have hl := lv_entry ([.ref (aM 0), .int p1]) (n := 2) (Nat.le_of_ble_eq_true rfl)
  rw [lg_entry_eq]
  generalize (lg_sl ([.ref (aM 0), .int p1]) ++ List.replicate (2 - (lg_sl ([.ref (aM 0), .int p1])).length) Slot.unset).toArray = ls at hl ⊢
  have hl : lv_has ls 2 [(0, .ref (aM 0)), (1, .int p1)] := hl
  refine lv_iload_n hx hb dX7_isDish_0 rfl (lv_at hl 1 rfl) ?_
  refine lv_iconst (v := (0 : Int32)) hx hb dX7_isDish_1 (by decide) ?_
  refine lv_aload_n hx hb dX7_isDish_2 rfl (lv_at hl 0 rfl) ?_
  refine va_get (D := (dC, dI)) (ci := 7) (v := .ref (aM 1)) (C := RX7) (T := TX7) (N := 15) hx hb hts hin7 hown hK hP 0 rfl rfl 0 (by decide) (hw_ hts 1 rfl) (fun _ h9 => h9) rfl dX7_isDish_3 ?_
  refine lv_iconst (v := (3 : Int32)) hx hb dX7_isDish_6 (by decide) ?_
  refine va_iald (f := (M 0)) hx hb hK hP 1 0 rfl rfl (vp_in_nI (n := 3) (by decide) (by decide)) dX7_isDish_7 ?_
  refine lv_iconst (v := (1 : Int32)) hx hb dX7_isDish_8 (by decide) ?_
  refine lv_isub hx hb dX7_isDish_9 ?_
  refine va_calli (va_runS (As := [.int p1, .int (0 : Int32), .int (((M 0) (ix (3 : Int32))) - (1 : Int32))]) (rest := []) ⟨hx, hb, hml, hown, hts⟩ (met_X7_within l dC dI cI cZ cS s.heap.size p1 (0 : Int32) (((M 0) (ix (3 : Int32))) - (1 : Int32))) (va_cwS 3 hts gX7_isDish_X7_within rfl rfl rfl (by decide +kernel) ⟨Nat.le_of_ble_eq_true rfl, Nat.le_of_ble_eq_true rfl⟩) (pS (wc := []) hK hP hD hN [] rfl (by decide)) rfl rfl hl.1 rfl (lv_room (Nat.le_of_ble_eq_true rfl)) dX7_isDish_10 ⟨Nat.zero_le _, Nat.zero_le _⟩) hS (fun q _ h => a0_in hS hA q h) (a0_in hS hA) (fun r1 u t H1 locs ht hvm hw hB hz1 hk1 hS => ?_)
  obtain ⟨hw, nb2⟩ := hw
  subst hw
  have hP := rdk hP hk1
  exact W.zret (v := (f7_within p1 (0 : Int32) (((M 0) (ix (3 : Int32))) - (1 : Int32)))) (ty := .boolean) hx hb hr nb2 (fun t ht hW => ⟨⟨(f7_within p1 (0 : Int32) (((M 0) (ix (3 : Int32))) - (1 : Int32))), (), rfl, ⟨hR, nb2⟩, trivial⟩, hS.F ht⟩) hS.2.2 dX7_isDish_13
abbrev rm_X7_isGuest : Room := { frames := 1, cells := 0, slots := 0, locals := 22 }
abbrev q_X7_isGuest (dC : Nat → ClassId) (dI : Nat → Nat → Nat) (cI cZ cS : ClassId) (aM : Nat → Nat)  (res : Int32) (A : Nat → Prop) : Array Value → State → Outcome → State → Prop := va_Qi (fun (r : Int32) (u : Unit) => r = res ∧ narrow .boolean (.int r) = .int r) (fun _ _ => True) A
set_option maxHeartbeats 4000000 in
set_option maxRecDepth 100000 in
theorem met_X7_isGuest (l : Launch) (dC : Nat → ClassId) (dI : Nat → Nat → Nat) (cI cZ cS : ClassId) (aM : Nat → Nat) (M : Pic) (hs : Int64) (sz : Nat) (p1 : Int32) : Met l yX7_isGuest wsX7_isGuest rm_X7_isGuest (va_Pc [.ref (aM 0), .int p1] (pW (dC, dI) (tyS cI cZ cS) (wMo cI aM M hs) sz)) (q_X7_isGuest dC dI cI cZ cS aM (f7_isGuest M p1) (a0 sz)) 0 0 (a0 sz) := by
  refine Met.ofW (cc := cX7_isGuest) (maxL := 2) (ret := (some .boolean)) (by decide) rfl ?_
  intro p e s m args below meth c s₁ B hml hv
  obtain ⟨rfl, hsz, hP, hK, hD0, hN⟩ := hv
  have hx := B.exec
  have hb := B.bytes
  have hr := B.returns
  have hts := atoms_spec (ws := wsX7_isGuest) B.pre
  have hown : s.vm.findClass RX7 = some m.cls := findClass_of_methodNamed B.named
  have hlocks := B.notSynchronized
  subst hsz
  have hD := hD0
  have hA : ∀ q : Nat, s.heap.size ≤ q → a0 s.heap.size q := fun q h => Or.inr h
  have hS : va_S (a0 s.heap.size) s.heap s.heap [] := va_S.rf
  have hP : va_P (dC, dI) vwCl (wMo cI aM M hs) s.heap := hP
  generalize hR : f7_isGuest M p1 = res
  rw [f7_isGuest] at hR
  have hin7 : ∀ w ∈ wsX70, w ∈ wsX7_isGuest := by decide +kernel
  have hl := lv_entry ([.ref (aM 0), .int p1]) (n := 2) (Nat.le_of_ble_eq_true rfl)
  rw [lg_entry_eq]
  generalize (lg_sl ([.ref (aM 0), .int p1]) ++ List.replicate (2 - (lg_sl ([.ref (aM 0), .int p1])).length) Slot.unset).toArray = ls at hl ⊢
  have hl : lv_has ls 2 [(0, .ref (aM 0)), (1, .int p1)] := hl
  refine lv_iload_n hx hb dX7_isGuest_0 rfl (lv_at hl 1 rfl) ?_
  refine lv_iconst (v := (0 : Int32)) hx hb dX7_isGuest_1 (by decide) ?_
  refine lv_aload_n hx hb dX7_isGuest_2 rfl (lv_at hl 0 rfl) ?_
  refine va_get (D := (dC, dI)) (ci := 7) (v := .ref (aM 1)) (C := RX7) (T := TX7) (N := 15) hx hb hts hin7 hown hK hP 0 rfl rfl 0 (by decide) (hw_ hts 1 rfl) (fun _ h9 => h9) rfl dX7_isGuest_3 ?_
  refine lv_iconst (v := (4 : Int32)) hx hb dX7_isGuest_6 (by decide) ?_
  refine va_iald (f := (M 0)) hx hb hK hP 1 0 rfl rfl (vp_in_nI (n := 4) (by decide) (by decide)) dX7_isGuest_7 ?_
  refine lv_iconst (v := (1 : Int32)) hx hb dX7_isGuest_8 (by decide) ?_
  refine lv_isub hx hb dX7_isGuest_9 ?_
  refine va_calli (va_runS (As := [.int p1, .int (0 : Int32), .int (((M 0) (ix (4 : Int32))) - (1 : Int32))]) (rest := []) ⟨hx, hb, hml, hown, hts⟩ (met_X7_within l dC dI cI cZ cS s.heap.size p1 (0 : Int32) (((M 0) (ix (4 : Int32))) - (1 : Int32))) (va_cwS 3 hts gX7_isGuest_X7_within rfl rfl rfl (by decide +kernel) ⟨Nat.le_of_ble_eq_true rfl, Nat.le_of_ble_eq_true rfl⟩) (pS (wc := []) hK hP hD hN [] rfl (by decide)) rfl rfl hl.1 rfl (lv_room (Nat.le_of_ble_eq_true rfl)) dX7_isGuest_10 ⟨Nat.zero_le _, Nat.zero_le _⟩) hS (fun q _ h => a0_in hS hA q h) (a0_in hS hA) (fun r1 u t H1 locs ht hvm hw hB hz1 hk1 hS => ?_)
  obtain ⟨hw, nb2⟩ := hw
  subst hw
  have hP := rdk hP hk1
  exact W.zret (v := (f7_within p1 (0 : Int32) (((M 0) (ix (4 : Int32))) - (1 : Int32)))) (ty := .boolean) hx hb hr nb2 (fun t ht hW => ⟨⟨(f7_within p1 (0 : Int32) (((M 0) (ix (4 : Int32))) - (1 : Int32))), (), rfl, ⟨hR, nb2⟩, trivial⟩, hS.F ht⟩) hS.2.2 dX7_isGuest_13
abbrev rm_X7_of : Room := { frames := 0, cells := 0, slots := 0, locals := 0 }
abbrev q_X7_of (dC : Nat → ClassId) (dI : Nat → Nat → Nat) (cI cZ cS : ClassId) (aM : Nat → Nat)  (res : Int32) (A : Nat → Prop) : Array Value → State → Outcome → State → Prop := va_Qi (fun (r : Int32) (u : Unit) => r = res) (fun _ _ => True) A
set_option maxHeartbeats 4000000 in
set_option maxRecDepth 100000 in
theorem met_X7_of (l : Launch) (dC : Nat → ClassId) (dI : Nat → Nat → Nat) (cI cZ cS : ClassId) (aM : Nat → Nat) (M : Pic) (hs : Int64) (sz : Nat) (p1 : Int32) (p2 : Int32) (res : Int32) (hR : f7_of M p1 p2 = some res) : Met l yX7_of wsX7_of rm_X7_of (va_Pc [.ref (aM 0), .int p1, .int p2] (pW (dC, dI) (tyS cI cZ cS) (wMo cI aM M hs) sz)) (q_X7_of dC dI cI cZ cS aM res (a0 sz)) 0 0 (a0 sz) := by
  refine Met.ofW (cc := cX7_of) (maxL := 3) (ret := (some .int)) (by decide) rfl ?_
  intro p e s m args below meth c s₁ B hml hv
  obtain ⟨rfl, hsz, hP, hK, hD0, hN⟩ := hv
  have hx := B.exec
  have hb := B.bytes
  have hr := B.returns
  have hts := atoms_spec (ws := wsX7_of) B.pre
  have hown : s.vm.findClass RX7 = some m.cls := findClass_of_methodNamed B.named
  have hlocks := B.notSynchronized
  subst hsz
  have hD := hD0
  have hA : ∀ q : Nat, s.heap.size ≤ q → a0 s.heap.size q := fun q h => Or.inr h
  have hS : va_S (a0 s.heap.size) s.heap s.heap [] := va_S.rf
  have hP : va_P (dC, dI) vwCl (wMo cI aM M hs) s.heap := hP
  rw [f7_of] at hR
  have hin7 : ∀ w ∈ wsX70, w ∈ wsX7_of := by decide +kernel
  have hl := lv_entry ([.ref (aM 0), .int p1, .int p2]) (n := 3) (Nat.le_of_ble_eq_true rfl)
  rw [lg_entry_eq]
  generalize (lg_sl ([.ref (aM 0), .int p1, .int p2]) ++ List.replicate (3 - (lg_sl ([.ref (aM 0), .int p1, .int p2])).length) Slot.unset).toArray = ls at hl ⊢
  have hl : lv_has ls 3 [(0, .ref (aM 0)), (1, .int p1), (2, .int p2)] := hl
  refine lv_aload_n hx hb dX7_of_0 rfl (lv_at hl 0 rfl) ?_
  refine va_get (D := (dC, dI)) (ci := 7) (v := .ref (aM 1)) (C := RX7) (T := TX7) (N := 15) hx hb hts hin7 hown hK hP 0 rfl rfl 0 (by decide) (hw_ hts 1 rfl) (fun _ h9 => h9) rfl dX7_of_1 ?_
  refine lv_iconst (v := (5 : Int32)) hx hb dX7_of_4 (by decide) ?_
  refine lv_bipush (v := (6 : Int32)) hx hb dX7_of_5 (by decide) ?_
  refine lv_iload_n hx hb dX7_of_7 rfl (lv_at hl 1 rfl) ?_
  refine lv_imul hx hb dX7_of_8 ?_
  refine lv_iadd hx hb dX7_of_9 ?_
  refine lv_iload_n hx hb dX7_of_10 rfl (lv_at hl 2 rfl) ?_
  refine lv_iadd hx hb dX7_of_11 ?_
  obtain ⟨hix1, hR⟩ := ck_some hR
  refine va_iald (f := (M 0)) hx hb hK hP 1 0 rfl rfl hix1 dX7_of_12 ?_
  exact W.iret (v := ((M 0) (ix (((5 : Int32) + ((6 : Int32) * p1)) + p2)))) hx hb hr (fun t ht hW => ⟨⟨((M 0) (ix (((5 : Int32) + ((6 : Int32) * p1)) + p2))), (), rfl, Option.some.inj hR, trivial⟩, hS.F ht⟩) hS.2.2 dX7_of_13
abbrev rm_X7_ofGuest : Room := { frames := 0, cells := 0, slots := 0, locals := 0 }
abbrev q_X7_ofGuest (dC : Nat → ClassId) (dI : Nat → Nat → Nat) (cI cZ cS : ClassId) (aM : Nat → Nat)  (res : Int32) (A : Nat → Prop) : Array Value → State → Outcome → State → Prop := va_Qi (fun (r : Int32) (u : Unit) => r = res) (fun _ _ => True) A
set_option maxHeartbeats 4000000 in
set_option maxRecDepth 100000 in
theorem met_X7_ofGuest (l : Launch) (dC : Nat → ClassId) (dI : Nat → Nat → Nat) (cI cZ cS : ClassId) (aM : Nat → Nat) (M : Pic) (hs : Int64) (sz : Nat) (p1 : Int32) (p2 : Int32) (res : Int32) (hR : f7_ofGuest M p1 p2 = some res) : Met l yX7_ofGuest wsX7_ofGuest rm_X7_ofGuest (va_Pc [.ref (aM 0), .int p1, .int p2] (pW (dC, dI) (tyS cI cZ cS) (wMo cI aM M hs) sz)) (q_X7_ofGuest dC dI cI cZ cS aM res (a0 sz)) 0 0 (a0 sz) := by
  refine Met.ofW (cc := cX7_ofGuest) (maxL := 3) (ret := (some .int)) (by decide) rfl ?_
  intro p e s m args below meth c s₁ B hml hv
  obtain ⟨rfl, hsz, hP, hK, hD0, hN⟩ := hv
  have hx := B.exec
  have hb := B.bytes
  have hr := B.returns
  have hts := atoms_spec (ws := wsX7_ofGuest) B.pre
  have hown : s.vm.findClass RX7 = some m.cls := findClass_of_methodNamed B.named
  have hlocks := B.notSynchronized
  subst hsz
  have hD := hD0
  have hA : ∀ q : Nat, s.heap.size ≤ q → a0 s.heap.size q := fun q h => Or.inr h
  have hS : va_S (a0 s.heap.size) s.heap s.heap [] := va_S.rf
  have hP : va_P (dC, dI) vwCl (wMo cI aM M hs) s.heap := hP
  rw [f7_ofGuest] at hR
  have hin7 : ∀ w ∈ wsX70, w ∈ wsX7_ofGuest := by decide +kernel
  have hl := lv_entry ([.ref (aM 0), .int p1, .int p2]) (n := 3) (Nat.le_of_ble_eq_true rfl)
  rw [lg_entry_eq]
  generalize (lg_sl ([.ref (aM 0), .int p1, .int p2]) ++ List.replicate (3 - (lg_sl ([.ref (aM 0), .int p1, .int p2])).length) Slot.unset).toArray = ls at hl ⊢
  have hl : lv_has ls 3 [(0, .ref (aM 0)), (1, .int p1), (2, .int p2)] := hl
  refine lv_aload_n hx hb dX7_ofGuest_0 rfl (lv_at hl 0 rfl) ?_
  refine va_get (D := (dC, dI)) (ci := 7) (v := .ref (aM 1)) (C := RX7) (T := TX7) (N := 15) hx hb hts hin7 hown hK hP 0 rfl rfl 0 (by decide) (hw_ hts 1 rfl) (fun _ h9 => h9) rfl dX7_ofGuest_1 ?_
  refine lv_bipush (v := (77 : Int32)) hx hb dX7_ofGuest_4 (by decide) ?_
  refine lv_iconst (v := (2 : Int32)) hx hb dX7_ofGuest_6 (by decide) ?_
  refine lv_iload_n hx hb dX7_ofGuest_7 rfl (lv_at hl 1 rfl) ?_
  refine lv_imul hx hb dX7_ofGuest_8 ?_
  refine lv_iadd hx hb dX7_ofGuest_9 ?_
  refine lv_iload_n hx hb dX7_ofGuest_10 rfl (lv_at hl 2 rfl) ?_
  refine lv_iadd hx hb dX7_ofGuest_11 ?_
  obtain ⟨hix1, hR⟩ := ck_some hR
  refine va_iald (f := (M 0)) hx hb hK hP 1 0 rfl rfl hix1 dX7_ofGuest_12 ?_
  exact W.iret (v := ((M 0) (ix (((77 : Int32) + ((2 : Int32) * p1)) + p2)))) hx hb hr (fun t ht hW => ⟨⟨((M 0) (ix (((77 : Int32) + ((2 : Int32) * p1)) + p2))), (), rfl, Option.some.inj hR, trivial⟩, hS.F ht⟩) hS.2.2 dX7_ofGuest_13
abbrev rm_X7_at : Room := { frames := 0, cells := 0, slots := 0, locals := 0 }
abbrev q_X7_at (dC : Nat → ClassId) (dI : Nat → Nat → Nat) (cI cZ cS : ClassId) (aM : Nat → Nat)  (res : Int32) (A : Nat → Prop) : Array Value → State → Outcome → State → Prop := va_Qi (fun (r : Int32) (u : Unit) => r = res) (fun _ _ => True) A
set_option maxHeartbeats 4000000 in
set_option maxRecDepth 100000 in
theorem met_X7_at (l : Launch) (dC : Nat → ClassId) (dI : Nat → Nat → Nat) (cI cZ cS : ClassId) (aM : Nat → Nat) (M : Pic) (hs : Int64) (sz : Nat) (p1 : Int32) (p2 : Int32) (res : Int32) (hR : f7_at M p1 p2 = some res) : Met l yX7_at wsX7_at rm_X7_at (va_Pc [.ref (aM 0), .int p1, .int p2] (pW (dC, dI) (tyS cI cZ cS) (wMo cI aM M hs) sz)) (q_X7_at dC dI cI cZ cS aM res (a0 sz)) 0 0 (a0 sz) := by
  refine Met.ofW (cc := cX7_at) (maxL := 3) (ret := (some .int)) (by decide) rfl ?_
  intro p e s m args below meth c s₁ B hml hv
  obtain ⟨rfl, hsz, hP, hK, hD0, hN⟩ := hv
  have hx := B.exec
  have hb := B.bytes
  have hr := B.returns
  have hts := atoms_spec (ws := wsX7_at) B.pre
  have hown : s.vm.findClass RX7 = some m.cls := findClass_of_methodNamed B.named
  have hlocks := B.notSynchronized
  subst hsz
  have hD := hD0
  have hA : ∀ q : Nat, s.heap.size ≤ q → a0 s.heap.size q := fun q h => Or.inr h
  have hS : va_S (a0 s.heap.size) s.heap s.heap [] := va_S.rf
  have hP : va_P (dC, dI) vwCl (wMo cI aM M hs) s.heap := hP
  rw [f7_at] at hR
  have hin7 : ∀ w ∈ wsX70, w ∈ wsX7_at := by decide +kernel
  have hl := lv_entry ([.ref (aM 0), .int p1, .int p2]) (n := 3) (Nat.le_of_ble_eq_true rfl)
  rw [lg_entry_eq]
  generalize (lg_sl ([.ref (aM 0), .int p1, .int p2]) ++ List.replicate (3 - (lg_sl ([.ref (aM 0), .int p1, .int p2])).length) Slot.unset).toArray = ls at hl ⊢
  have hl : lv_has ls 3 [(0, .ref (aM 0)), (1, .int p1), (2, .int p2)] := hl
  refine lv_aload_n hx hb dX7_at_0 rfl (lv_at hl 0 rfl) ?_
  refine va_get (D := (dC, dI)) (ci := 7) (v := .ref (aM 1)) (C := RX7) (T := TX7) (N := 15) hx hb hts hin7 hown hK hP 0 rfl rfl 0 (by decide) (hw_ hts 1 rfl) (fun _ h9 => h9) rfl dX7_at_1 ?_
  refine lv_bipush (v := (89 : Int32)) hx hb dX7_at_4 (by decide) ?_
  refine lv_iconst (v := (3 : Int32)) hx hb dX7_at_6 (by decide) ?_
  refine lv_iload_n hx hb dX7_at_7 rfl (lv_at hl 1 rfl) ?_
  refine lv_imul hx hb dX7_at_8 ?_
  refine lv_iadd hx hb dX7_at_9 ?_
  refine lv_iload_n hx hb dX7_at_10 rfl (lv_at hl 2 rfl) ?_
  refine lv_iadd hx hb dX7_at_11 ?_
  obtain ⟨hix1, hR⟩ := ck_some hR
  refine va_iald (f := (M 0)) hx hb hK hP 1 0 rfl rfl hix1 dX7_at_12 ?_
  exact W.iret (v := ((M 0) (ix (((89 : Int32) + ((3 : Int32) * p1)) + p2)))) hx hb hr (fun t ht hW => ⟨⟨((M 0) (ix (((89 : Int32) + ((3 : Int32) * p1)) + p2))), (), rfl, Option.some.inj hR, trivial⟩, hS.F ht⟩) hS.2.2 dX7_at_13
abbrev rm_X7_isLeftover : Room := { frames := 1, cells := 0, slots := 0, locals := 22 }
abbrev q_X7_isLeftover (dC : Nat → ClassId) (dI : Nat → Nat → Nat) (cI cZ cS : ClassId) (aM : Nat → Nat)  (res : Int32) (A : Nat → Prop) : Array Value → State → Outcome → State → Prop := va_Qi (fun (r : Int32) (u : Unit) => r = res ∧ narrow .boolean (.int r) = .int r) (fun _ _ => True) A
set_option maxHeartbeats 4000000 in
set_option maxRecDepth 100000 in
theorem met_X7_isLeftover (l : Launch) (dC : Nat → ClassId) (dI : Nat → Nat → Nat) (cI cZ cS : ClassId) (aM : Nat → Nat) (M : Pic) (hs : Int64) (sz : Nat) (p1 : Int32) (res : Int32) (hR : f7_isLeftover M p1 = some res) : Met l yX7_isLeftover wsX7_isLeftover rm_X7_isLeftover (va_Pc [.ref (aM 0), .int p1] (pW (dC, dI) (tyS cI cZ cS) (wMo cI aM M hs) sz)) (q_X7_isLeftover dC dI cI cZ cS aM res (a0 sz)) 0 0 (a0 sz) := by
  refine Met.ofW (cc := cX7_isLeftover) (maxL := 4) (ret := (some .boolean)) (by decide) rfl ?_
  intro p e s m args below meth c s₁ B hml hv
  obtain ⟨rfl, hsz, hP, hK, hD0, hN⟩ := hv
  have hx := B.exec
  have hb := B.bytes
  have hr := B.returns
  have hts := atoms_spec (ws := wsX7_isLeftover) B.pre
  have hown : s.vm.findClass RX7 = some m.cls := findClass_of_methodNamed B.named
  have hlocks := B.notSynchronized
  subst hsz
  have hD := hD0
  have hA : ∀ q : Nat, s.heap.size ≤ q → a0 s.heap.size q := fun q h => Or.inr h
  have hS : va_S (a0 s.heap.size) s.heap s.heap [] := va_S.rf
  have hP : va_P (dC, dI) vwCl (wMo cI aM M hs) s.heap := hP
  rw [f7_isLeftover] at hR
  have hin7 : ∀ w ∈ wsX70, w ∈ wsX7_isLeftover := by decide +kernel
  have hl := lv_entry ([.ref (aM 0), .int p1]) (n := 4) (Nat.le_of_ble_eq_true rfl)
  rw [lg_entry_eq]
  generalize (lg_sl ([.ref (aM 0), .int p1]) ++ List.replicate (4 - (lg_sl ([.ref (aM 0), .int p1])).length) Slot.unset).toArray = ls at hl ⊢
  have hl : lv_has ls 4 [(0, .ref (aM 0)), (1, .int p1)] := hl
  refine lv_iconst (v := (0 : Int32)) hx hb dX7_isLeftover_0 (by decide) ?_
  refine lv_istore_n (lv' := [(2, .int (0 : Int32)), (0, .ref (aM 0)), (1, .int p1)]) hx hb dX7_isLeftover_1 rfl hl (by decide) rfl (fun ls hl => ?_)
  refine lv_iconst (v := (0 : Int32)) hx hb dX7_isLeftover_2 (by decide) ?_
  refine lv_istore_n (lv' := [(3, .int (0 : Int32)), (2, .int (0 : Int32)), (0, .ref (aM 0)), (1, .int p1)]) hx hb dX7_isLeftover_3 rfl hl (by decide) rfl (fun ls hl => ?_)
  have LOOP4 : ∀ (k : Int32 → (Option (Int32))), (∀ (x2_4 : Int32) (H1 : Heap) (locs : List Loc), narrow .boolean (.int x2_4) = .int x2_4 → k x2_4 = some res → va_P (dC, dI) vwCl (wMo cI aM M hs) H1 → va_D (fun _ => True) (wMo cI aM M hs) → va_S (a0 s.heap.size) s.heap H1 locs → ∀ (ls : Array Slot), lv_has ls 4 [(2, .int x2_4)] → W p l e (headSpec wsX7_isLeftover rm_X7_isLeftover).room s m ([.ref (aM 0), .int p1] : List Value).toArray below meth c H1 locs 0 0 (MQ below (q_X7_isLeftover dC dI cI cZ cS aM res (a0 s.heap.size)) ([.ref (aM 0), .int p1] : List Value).toArray s 0 0 (a0 s.heap.size)) (F0 m 40 ls [])) → ∀ (nf : Nat) (x2_4 : Int32) (x3_4 : Int32) (H1 : Heap) (locs : List Loc), (((M 0) (ix (3 : Int32)))).toInt - (x3_4).toInt ≤ (nf : Int) → narrow .boolean (.int x2_4) = .int x2_4 → f7_isLeftover_L4 M p1 nf x2_4 x3_4 k = some res → va_P (dC, dI) vwCl (wMo cI aM M hs) H1 → va_D (fun _ => True) (wMo cI aM M hs) → va_S (a0 s.heap.size) s.heap H1 locs → ∀ (ls : Array Slot), lv_has ls 4 [(2, .int x2_4), (3, .int x3_4), (0, .ref (aM 0)), (1, .int p1)] → W p l e (headSpec wsX7_isLeftover rm_X7_isLeftover).room s m ([.ref (aM 0), .int p1] : List Value).toArray below meth c H1 locs 0 0 (MQ below (q_X7_isLeftover dC dI cI cZ cS aM res (a0 s.heap.size)) ([.ref (aM 0), .int p1] : List Value).toArray s 0 0 (a0 s.heap.size)) (F0 m 4 ls []) := by
    intro k hk nf
    induction nf with
    | zero =>
      intro x2_4 x3_4 H1 locs hfu hnb2 hR hP hD hS ls hl
      rw [f7_isLeftover_L4] at hR
      refine lv_iload_n hx hb dX7_isLeftover_4 rfl (lv_at hl 1 rfl) ?_
      refine lv_aload_n hx hb dX7_isLeftover_5 rfl (lv_at hl 2 rfl) ?_
      refine va_get (D := (dC, dI)) (ci := 7) (v := .ref (aM 1)) (C := RX7) (T := TX7) (N := 15) hx hb hts hin7 hown hK hP 0 rfl rfl 0 (by decide) (hw_ hts 1 rfl) (fun _ h9 => h9) rfl dX7_isLeftover_6 ?_
      refine lv_iconst (v := (3 : Int32)) hx hb dX7_isLeftover_9 (by decide) ?_
      refine va_iald (f := (M 0)) hx hb hK hP 1 0 rfl rfl (vp_in_nI (n := 3) (by decide) (by decide)) dX7_isLeftover_10 ?_
      refine lv_icmp_ge (tgt := 40) hx hb dX7_isLeftover_11 (by decide) (fun c_1 => ?_) (fun c_1 => ?_)
      · skip
        exact hk x2_4 _ _ hnb2 hR hP hD hS ls (lv_sub hl [0] rfl)
      · exact (fuel0 hfu c_1).elim
    | succ nf ih =>
      intro x2_4 x3_4 H1 locs hfu hnb2 hR hP hD hS ls hl
      rw [f7_isLeftover_L4] at hR
      refine lv_iload_n hx hb dX7_isLeftover_4 rfl (lv_at hl 1 rfl) ?_
      refine lv_aload_n hx hb dX7_isLeftover_5 rfl (lv_at hl 2 rfl) ?_
      refine va_get (D := (dC, dI)) (ci := 7) (v := .ref (aM 1)) (C := RX7) (T := TX7) (N := 15) hx hb hts hin7 hown hK hP 0 rfl rfl 0 (by decide) (hw_ hts 1 rfl) (fun _ h9 => h9) rfl dX7_isLeftover_6 ?_
      refine lv_iconst (v := (3 : Int32)) hx hb dX7_isLeftover_9 (by decide) ?_
      refine va_iald (f := (M 0)) hx hb hK hP 1 0 rfl rfl (vp_in_nI (n := 3) (by decide) (by decide)) dX7_isLeftover_10 ?_
      refine lv_icmp_ge (tgt := 40) hx hb dX7_isLeftover_11 (by decide) (fun c_2 => ?_) (fun c_2 => ?_)
      · rw [if_pos c_2] at hR
        exact hk x2_4 _ _ hnb2 hR hP hD hS ls (lv_sub hl [0] rfl)
      · rw [if_neg c_2] at hR
        have hfu := fuelS hfu c_2
        refine lv_iload_n hx hb dX7_isLeftover_14 rfl (lv_at hl 0 rfl) ?_
        refine lv_if_ne (tgt := 28) hx hb dX7_isLeftover_15 (by decide) (fun c_3 => ?_) (fun c_3 => ?_)
        · rw [if_neg c_3] at hR
          refine lv_iconst (v := (1 : Int32)) hx hb dX7_isLeftover_28 (by decide) ?_
          refine lv_goto (tgt := 33) hx hb dX7_isLeftover_29 (by decide) ?_
          refine lv_istore_n (lv' := [(2, .int (1 : Int32)), (3, .int x3_4), (0, .ref (aM 0)), (1, .int p1)]) hx hb dX7_isLeftover_33 rfl hl (by decide) rfl (fun ls hl => ?_)
          refine lv_iinc (v := (x3_4 + 1)) (lv' := [(3, .int (x3_4 + 1)), (2, .int (1 : Int32)), (0, .ref (aM 0)), (1, .int p1)]) hx hb dX7_isLeftover_34 hl (k := 1) rfl rfl (by decide) rfl (fun ls hl => ?_)
          refine lv_goto (tgt := 4) hx hb dX7_isLeftover_37 (by decide) ?_
          exact ih (1 : Int32) (x3_4 + 1) _ _ hfu rfl hR hP hD hS ls (lv_sub hl [1, 0, 2, 3] rfl)
        · rw [if_pos c_3] at hR
          refine lv_aload_n hx hb dX7_isLeftover_18 rfl (lv_at hl 2 rfl) ?_
          refine lv_iload_n hx hb dX7_isLeftover_19 rfl (lv_at hl 1 rfl) ?_
          refine lv_iconst (v := (4 : Int32)) hx hb dX7_isLeftover_20 (by decide) ?_
          obtain ⟨r4, hc5, hR⟩ := ob1_e hR
          refine va_calli (va_runV (As := [.int x3_4, .int (4 : Int32)]) (rest := []) ⟨hx, hb, hml, hown, hts⟩ (met_X7_of l dC dI cI cZ cS aM M hs H1.size x3_4 (4 : Int32) r4 hc5) (cwV 2 hts gX7_isLeftover_X7_of rfl rfl rfl (by decide +kernel) ⟨Nat.le_of_ble_eq_true rfl, Nat.le_of_ble_eq_true rfl⟩) (pV (wc := wMo cI aM M hs) (ci := 7) (q0 := 0) hK hP hD hN [0, 1, 2, 3, 4, 5, 6, 7, 8] rfl (by decide) rfl rfl) rfl rfl hl.1 rfl (lv_room (Nat.le_of_ble_eq_true rfl)) dX7_isLeftover_21 ⟨Nat.zero_le _, Nat.zero_le _⟩) hS (fun q _ h => a0_in hS hA q h) (a0_in hS hA) (fun r4 u t H2 locs ht hvm hw hB hz1 hk1 hS => ?_)
          cases hw
          have hP := rdk hP hk1
          refine lv_iload_n hx hb dX7_isLeftover_24 rfl (lv_at hl 3 rfl) ?_
          refine lv_icmp_ne (tgt := 32) hx hb dX7_isLeftover_25 (by decide) (fun c_6 => ?_) (fun c_6 => ?_)
          · rw [if_neg c_6] at hR
            refine lv_iconst (v := (0 : Int32)) hx hb dX7_isLeftover_32 (by decide) ?_
            refine lv_istore_n (lv' := [(2, .int (0 : Int32)), (3, .int x3_4), (0, .ref (aM 0)), (1, .int p1)]) hx hb dX7_isLeftover_33 rfl hl (by decide) rfl (fun ls hl => ?_)
            refine lv_iinc (v := (x3_4 + 1)) (lv' := [(3, .int (x3_4 + 1)), (2, .int (0 : Int32)), (0, .ref (aM 0)), (1, .int p1)]) hx hb dX7_isLeftover_34 hl (k := 1) rfl rfl (by decide) rfl (fun ls hl => ?_)
            refine lv_goto (tgt := 4) hx hb dX7_isLeftover_37 (by decide) ?_
            exact ih (0 : Int32) (x3_4 + 1) _ _ hfu rfl hR hP hD hS ls (lv_sub hl [1, 0, 2, 3] rfl)
          · rw [if_pos c_6] at hR
            refine lv_iconst (v := (1 : Int32)) hx hb dX7_isLeftover_28 (by decide) ?_
            refine lv_goto (tgt := 33) hx hb dX7_isLeftover_29 (by decide) ?_
            refine lv_istore_n (lv' := [(2, .int (1 : Int32)), (3, .int x3_4), (0, .ref (aM 0)), (1, .int p1)]) hx hb dX7_isLeftover_33 rfl hl (by decide) rfl (fun ls hl => ?_)
            refine lv_iinc (v := (x3_4 + 1)) (lv' := [(3, .int (x3_4 + 1)), (2, .int (1 : Int32)), (0, .ref (aM 0)), (1, .int p1)]) hx hb dX7_isLeftover_34 hl (k := 1) rfl rfl (by decide) rfl (fun ls hl => ?_)
            refine lv_goto (tgt := 4) hx hb dX7_isLeftover_37 (by decide) ?_
            exact ih (1 : Int32) (x3_4 + 1) _ _ hfu rfl hR hP hD hS ls (lv_sub hl [1, 0, 2, 3] rfl)
  refine LOOP4 (fun x2_4 => (some x2_4)) (fun x2_4 H1 locs hnb2 hR hP hD hS ls hl => ?_) (fuelN (0 : Int32) ((M 0) (ix (3 : Int32)))) (0 : Int32) (0 : Int32) _ _ (fuelE _ _) rfl hR hP hD hS ls (lv_sub hl [1, 0, 2, 3] rfl)
  try dsimp only at hR
  refine lv_iload_n hx hb dX7_isLeftover_40 rfl (lv_at hl 0 rfl) ?_
  exact W.zret (v := x2_4) (ty := .boolean) hx hb hr hnb2 (fun t ht hW => ⟨⟨x2_4, (), rfl, ⟨Option.some.inj hR, hnb2⟩, trivial⟩, hS.F ht⟩) hS.2.2 dX7_isLeftover_41
abbrev rm_X7_isSource : Room := { frames := 1, cells := 0, slots := 0, locals := 22 }
abbrev q_X7_isSource (dC : Nat → ClassId) (dI : Nat → Nat → Nat) (cI cZ cS : ClassId) (aM : Nat → Nat)  (res : Int32) (A : Nat → Prop) : Array Value → State → Outcome → State → Prop := va_Qi (fun (r : Int32) (u : Unit) => r = res ∧ narrow .boolean (.int r) = .int r) (fun _ _ => True) A
set_option maxHeartbeats 4000000 in
set_option maxRecDepth 100000 in
theorem met_X7_isSource (l : Launch) (dC : Nat → ClassId) (dI : Nat → Nat → Nat) (cI cZ cS : ClassId) (aM : Nat → Nat) (M : Pic) (hs : Int64) (sz : Nat) (p1 : Int32) (res : Int32) (hR : f7_isSource M p1 = some res) : Met l yX7_isSource wsX7_isSource rm_X7_isSource (va_Pc [.ref (aM 0), .int p1] (pW (dC, dI) (tyS cI cZ cS) (wMo cI aM M hs) sz)) (q_X7_isSource dC dI cI cZ cS aM res (a0 sz)) 0 0 (a0 sz) := by
  refine Met.ofW (cc := cX7_isSource) (maxL := 2) (ret := (some .boolean)) (by decide) rfl ?_
  intro p e s m args below meth c s₁ B hml hv
  obtain ⟨rfl, hsz, hP, hK, hD0, hN⟩ := hv
  have hx := B.exec
  have hb := B.bytes
  have hr := B.returns
  have hts := atoms_spec (ws := wsX7_isSource) B.pre
  have hown : s.vm.findClass RX7 = some m.cls := findClass_of_methodNamed B.named
  have hlocks := B.notSynchronized
  subst hsz
  have hD := hD0
  have hA : ∀ q : Nat, s.heap.size ≤ q → a0 s.heap.size q := fun q h => Or.inr h
  have hS : va_S (a0 s.heap.size) s.heap s.heap [] := va_S.rf
  have hP : va_P (dC, dI) vwCl (wMo cI aM M hs) s.heap := hP
  rw [f7_isSource] at hR
  have hin7 : ∀ w ∈ wsX70, w ∈ wsX7_isSource := by decide +kernel
  have hl := lv_entry ([.ref (aM 0), .int p1]) (n := 2) (Nat.le_of_ble_eq_true rfl)
  rw [lg_entry_eq]
  generalize (lg_sl ([.ref (aM 0), .int p1]) ++ List.replicate (2 - (lg_sl ([.ref (aM 0), .int p1])).length) Slot.unset).toArray = ls at hl ⊢
  have hl : lv_has ls 2 [(0, .ref (aM 0)), (1, .int p1)] := hl
  refine lv_aload_n hx hb dX7_isSource_0 rfl (lv_at hl 0 rfl) ?_
  refine va_get (D := (dC, dI)) (ci := 7) (v := .ref (aM 1)) (C := RX7) (T := TX7) (N := 15) hx hb hts hin7 hown hK hP 0 rfl rfl 0 (by decide) (hw_ hts 1 rfl) (fun _ h9 => h9) rfl dX7_isSource_1 ?_
  refine lv_bipush (v := (89 : Int32)) hx hb dX7_isSource_4 (by decide) ?_
  refine lv_iload_n hx hb dX7_isSource_6 rfl (lv_at hl 1 rfl) ?_
  refine lv_iadd hx hb dX7_isSource_7 ?_
  obtain ⟨hix1, hR⟩ := ck_some hR
  refine va_iald (f := (M 0)) hx hb hK hP 1 0 rfl rfl hix1 dX7_isSource_8 ?_
  refine lv_iconst (v := (-1 : Int32)) hx hb dX7_isSource_9 (by decide) ?_
  refine lv_icmp_eq (tgt := 35) hx hb dX7_isSource_10 (by decide) (fun c_2 => ?_) (fun c_2 => ?_)
  · rw [if_pos c_2] at hR
    refine lv_iconst (v := (0 : Int32)) hx hb dX7_isSource_35 (by decide) ?_
    exact W.zret (v := (0 : Int32)) (ty := .boolean) hx hb hr rfl (fun t ht hW => ⟨⟨(0 : Int32), (), rfl, ⟨Option.some.inj hR, rfl⟩, trivial⟩, hS.F ht⟩) hS.2.2 dX7_isSource_36
  · rw [if_neg c_2] at hR
    refine lv_aload_n hx hb dX7_isSource_13 rfl (lv_at hl 0 rfl) ?_
    refine lv_aload_n hx hb dX7_isSource_14 rfl (lv_at hl 0 rfl) ?_
    refine va_get (D := (dC, dI)) (ci := 7) (v := .ref (aM 1)) (C := RX7) (T := TX7) (N := 15) hx hb hts hin7 hown hK hP 0 rfl rfl 0 (by decide) (hw_ hts 1 rfl) (fun _ h9 => h9) rfl dX7_isSource_15 ?_
    refine lv_bipush (v := (89 : Int32)) hx hb dX7_isSource_18 (by decide) ?_
    refine lv_iload_n hx hb dX7_isSource_20 rfl (lv_at hl 1 rfl) ?_
    refine lv_iadd hx hb dX7_isSource_21 ?_
    obtain ⟨hix3, hR⟩ := ck_some hR
    refine va_iald (f := (M 0)) hx hb hK hP 1 0 rfl rfl hix3 dX7_isSource_22 ?_
    refine lv_iconst (v := (4 : Int32)) hx hb dX7_isSource_23 (by decide) ?_
    obtain ⟨r4, hc5, hR⟩ := ob1_e hR
    refine va_calli (va_runV (As := [.int ((M 0) (ix ((89 : Int32) + p1))), .int (4 : Int32)]) (rest := []) ⟨hx, hb, hml, hown, hts⟩ (met_X7_of l dC dI cI cZ cS aM M hs s.heap.size ((M 0) (ix ((89 : Int32) + p1))) (4 : Int32) r4 hc5) (cwV 2 hts gX7_isSource_X7_of rfl rfl rfl (by decide +kernel) ⟨Nat.le_of_ble_eq_true rfl, Nat.le_of_ble_eq_true rfl⟩) (pV (wc := wMo cI aM M hs) (ci := 7) (q0 := 0) hK hP hD hN [0, 1, 2, 3, 4, 5, 6, 7, 8] rfl (by decide) rfl rfl) rfl rfl hl.1 rfl (lv_room (Nat.le_of_ble_eq_true rfl)) dX7_isSource_24 ⟨Nat.zero_le _, Nat.zero_le _⟩) hS (fun q _ h => a0_in hS hA q h) (a0_in hS hA) (fun r4 u t H1 locs ht hvm hw hB hz1 hk1 hS => ?_)
    cases hw
    have hP := rdk hP hk1
    refine lv_iconst (v := (-1 : Int32)) hx hb dX7_isSource_27 (by decide) ?_
    refine lv_icmp_eq (tgt := 35) hx hb dX7_isSource_28 (by decide) (fun c_6 => ?_) (fun c_6 => ?_)
    · rw [if_pos c_6] at hR
      refine lv_iconst (v := (0 : Int32)) hx hb dX7_isSource_35 (by decide) ?_
      exact W.zret (v := (0 : Int32)) (ty := .boolean) hx hb hr rfl (fun t ht hW => ⟨⟨(0 : Int32), (), rfl, ⟨Option.some.inj hR, rfl⟩, trivial⟩, hS.F ht⟩) hS.2.2 dX7_isSource_36
    · rw [if_neg c_6] at hR
      refine lv_iconst (v := (1 : Int32)) hx hb dX7_isSource_31 (by decide) ?_
      refine lv_goto (tgt := 36) hx hb dX7_isSource_32 (by decide) ?_
      exact W.zret (v := (1 : Int32)) (ty := .boolean) hx hb hr rfl (fun t ht hW => ⟨⟨(1 : Int32), (), rfl, ⟨Option.some.inj hR, rfl⟩, trivial⟩, hS.F ht⟩) hS.2.2 dX7_isSource_36
abbrev rm_X7_lastDay : Room := { frames := 1, cells := 0, slots := 0, locals := 22 }
abbrev q_X7_lastDay (dC : Nat → ClassId) (dI : Nat → Nat → Nat) (cI cZ cS : ClassId) (aM : Nat → Nat)  (res : Int32) (A : Nat → Prop) : Array Value → State → Outcome → State → Prop := va_Qi (fun (r : Int32) (u : Unit) => r = res) (fun _ _ => True) A
set_option maxHeartbeats 4000000 in
set_option maxRecDepth 100000 in
theorem met_X7_lastDay (l : Launch) (dC : Nat → ClassId) (dI : Nat → Nat → Nat) (cI cZ cS : ClassId) (aM : Nat → Nat) (M : Pic) (hs : Int64) (sz : Nat) (p1 : Int32) (res : Int32) (hR : f7_lastDay M p1 = some res) : Met l yX7_lastDay wsX7_lastDay rm_X7_lastDay (va_Pc [.ref (aM 0), .int p1] (pW (dC, dI) (tyS cI cZ cS) (wMo cI aM M hs) sz)) (q_X7_lastDay dC dI cI cZ cS aM res (a0 sz)) 0 0 (a0 sz) := by
  refine Met.ofW (cc := cX7_lastDay) (maxL := 2) (ret := (some .int)) (by decide) rfl ?_
  intro p e s m args below meth c s₁ B hml hv
  obtain ⟨rfl, hsz, hP, hK, hD0, hN⟩ := hv
  have hx := B.exec
  have hb := B.bytes
  have hr := B.returns
  have hts := atoms_spec (ws := wsX7_lastDay) B.pre
  have hown : s.vm.findClass RX7 = some m.cls := findClass_of_methodNamed B.named
  have hlocks := B.notSynchronized
  subst hsz
  have hD := hD0
  have hA : ∀ q : Nat, s.heap.size ≤ q → a0 s.heap.size q := fun q h => Or.inr h
  have hS : va_S (a0 s.heap.size) s.heap s.heap [] := va_S.rf
  have hP : va_P (dC, dI) vwCl (wMo cI aM M hs) s.heap := hP
  rw [f7_lastDay] at hR
  have hin7 : ∀ w ∈ wsX70, w ∈ wsX7_lastDay := by decide +kernel
  have hl := lv_entry ([.ref (aM 0), .int p1]) (n := 2) (Nat.le_of_ble_eq_true rfl)
  rw [lg_entry_eq]
  generalize (lg_sl ([.ref (aM 0), .int p1]) ++ List.replicate (2 - (lg_sl ([.ref (aM 0), .int p1])).length) Slot.unset).toArray = ls at hl ⊢
  have hl : lv_has ls 2 [(0, .ref (aM 0)), (1, .int p1)] := hl
  refine lv_iload_n hx hb dX7_lastDay_0 rfl (lv_at hl 1 rfl) ?_
  refine lv_iconst (v := (3 : Int32)) hx hb dX7_lastDay_1 (by decide) ?_
  refine lv_idiv hx hb dX7_lastDay_2 (by decide) ?_
  refine lv_aload_n hx hb dX7_lastDay_3 rfl (lv_at hl 0 rfl) ?_
  refine lv_aload_n hx hb dX7_lastDay_4 rfl (lv_at hl 0 rfl) ?_
  refine va_get (D := (dC, dI)) (ci := 7) (v := .ref (aM 1)) (C := RX7) (T := TX7) (N := 15) hx hb hts hin7 hown hK hP 0 rfl rfl 0 (by decide) (hw_ hts 1 rfl) (fun _ h9 => h9) rfl dX7_lastDay_5 ?_
  refine lv_bipush (v := (89 : Int32)) hx hb dX7_lastDay_8 (by decide) ?_
  refine lv_iload_n hx hb dX7_lastDay_10 rfl (lv_at hl 1 rfl) ?_
  refine lv_iadd hx hb dX7_lastDay_11 ?_
  obtain ⟨hix1, hR⟩ := ck_some hR
  refine va_iald (f := (M 0)) hx hb hK hP 1 0 rfl rfl hix1 dX7_lastDay_12 ?_
  refine lv_iconst (v := (5 : Int32)) hx hb dX7_lastDay_13 (by decide) ?_
  obtain ⟨r2, hc3, hR⟩ := ob1_e hR
  refine va_calli (va_runV (As := [.int ((M 0) (ix ((89 : Int32) + p1))), .int (5 : Int32)]) (rest := [.int (p1 / (3 : Int32))]) ⟨hx, hb, hml, hown, hts⟩ (met_X7_of l dC dI cI cZ cS aM M hs s.heap.size ((M 0) (ix ((89 : Int32) + p1))) (5 : Int32) r2 hc3) (cwV 2 hts gX7_lastDay_X7_of rfl rfl rfl (by decide +kernel) ⟨Nat.le_of_ble_eq_true rfl, Nat.le_of_ble_eq_true rfl⟩) (pV (wc := wMo cI aM M hs) (ci := 7) (q0 := 0) hK hP hD hN [0, 1, 2, 3, 4, 5, 6, 7, 8] rfl (by decide) rfl rfl) rfl rfl hl.1 rfl (lv_room (Nat.le_of_ble_eq_true rfl)) dX7_lastDay_14 ⟨Nat.zero_le _, Nat.zero_le _⟩) hS (fun q _ h => a0_in hS hA q h) (a0_in hS hA) (fun r2 u t H1 locs ht hvm hw hB hz1 hk1 hS => ?_)
  cases hw
  have hP := rdk hP hk1
  refine lv_iadd hx hb dX7_lastDay_17 ?_
  exact W.iret (v := ((p1 / (3 : Int32)) + r2)) hx hb hr (fun t ht hW => ⟨⟨((p1 / (3 : Int32)) + r2), (), rfl, Option.some.inj hR, trivial⟩, hS.F ht⟩) hS.2.2 dX7_lastDay_18
abbrev rm_X7_isThere : Room := { frames := 2, cells := 0, slots := 0, locals := 43 }
abbrev q_X7_isThere (dC : Nat → ClassId) (dI : Nat → Nat → Nat) (cI cZ cS : ClassId) (aM : Nat → Nat)  (res : Int32) (A : Nat → Prop) : Array Value → State → Outcome → State → Prop := va_Qi (fun (r : Int32) (u : Unit) => r = res ∧ narrow .boolean (.int r) = .int r) (fun _ _ => True) A
set_option maxHeartbeats 4000000 in
set_option maxRecDepth 100000 in
theorem met_X7_isThere (l : Launch) (dC : Nat → ClassId) (dI : Nat → Nat → Nat) (cI cZ cS : ClassId) (aM : Nat → Nat) (M : Pic) (hs : Int64) (sz : Nat) (p1 : Int32) (p2 : Int32) (p3 : Int32) (res : Int32) (hR : f7_isThere M p1 p2 p3 = some res) : Met l yX7_isThere wsX7_isThere rm_X7_isThere (va_Pc [.ref (aM 0), .int p1, .int p2, .int p3] (pW (dC, dI) (tyS cI cZ cS) (wMo cI aM M hs) sz)) (q_X7_isThere dC dI cI cZ cS aM res (a0 sz)) 0 0 (a0 sz) := by
  refine Met.ofW (cc := cX7_isThere) (maxL := 4) (ret := (some .boolean)) (by decide) rfl ?_
  intro p e s m args below meth c s₁ B hml hv
  obtain ⟨rfl, hsz, hP, hK, hD0, hN⟩ := hv
  have hx := B.exec
  have hb := B.bytes
  have hr := B.returns
  have hts := atoms_spec (ws := wsX7_isThere) B.pre
  have hown : s.vm.findClass RX7 = some m.cls := findClass_of_methodNamed B.named
  have hlocks := B.notSynchronized
  subst hsz
  have hD := hD0
  have hA : ∀ q : Nat, s.heap.size ≤ q → a0 s.heap.size q := fun q h => Or.inr h
  have hS : va_S (a0 s.heap.size) s.heap s.heap [] := va_S.rf
  have hP : va_P (dC, dI) vwCl (wMo cI aM M hs) s.heap := hP
  rw [f7_isThere] at hR
  have hin7 : ∀ w ∈ wsX70, w ∈ wsX7_isThere := by decide +kernel
  have hl := lv_entry ([.ref (aM 0), .int p1, .int p2, .int p3]) (n := 4) (Nat.le_of_ble_eq_true rfl)
  rw [lg_entry_eq]
  generalize (lg_sl ([.ref (aM 0), .int p1, .int p2, .int p3]) ++ List.replicate (4 - (lg_sl ([.ref (aM 0), .int p1, .int p2, .int p3])).length) Slot.unset).toArray = ls at hl ⊢
  have hl : lv_has ls 4 [(0, .ref (aM 0)), (1, .int p1), (2, .int p2), (3, .int p3)] := hl
  refine lv_aload_n hx hb dX7_isThere_0 rfl (lv_at hl 0 rfl) ?_
  refine lv_iload_n hx hb dX7_isThere_1 rfl (lv_at hl 1 rfl) ?_
  obtain ⟨r1, hc2, hR⟩ := ob1_e hR
  refine va_calli (va_runV (As := [.int p1]) (rest := []) ⟨hx, hb, hml, hown, hts⟩ (met_X7_isSource l dC dI cI cZ cS aM M hs s.heap.size p1 r1 hc2) (cwV 1 hts gX7_isThere_X7_isSource rfl rfl rfl (by decide +kernel) ⟨Nat.le_of_ble_eq_true rfl, Nat.le_of_ble_eq_true rfl⟩) (pV (wc := wMo cI aM M hs) (ci := 7) (q0 := 0) hK hP hD hN [0, 1, 2, 3, 4, 5, 6, 7, 8] rfl (by decide) rfl rfl) rfl rfl hl.1 rfl (lv_room (Nat.le_of_ble_eq_true rfl)) dX7_isThere_2 ⟨Nat.zero_le _, Nat.zero_le _⟩) hS (fun q _ h => a0_in hS hA q h) (a0_in hS hA) (fun r1 u t H1 locs ht hvm hw hB hz1 hk1 hS => ?_)
  obtain ⟨hw, nb3⟩ := hw
  cases hw
  have hP := rdk hP hk1
  refine lv_if_eq (tgt := 55) hx hb dX7_isThere_5 (by decide) (fun c_4 => ?_) (fun c_4 => ?_)
  · rw [if_pos c_4] at hR
    refine lv_iconst (v := (0 : Int32)) hx hb dX7_isThere_55 (by decide) ?_
    exact W.zret (v := (0 : Int32)) (ty := .boolean) hx hb hr rfl (fun t ht hW => ⟨⟨(0 : Int32), (), rfl, ⟨Option.some.inj hR, rfl⟩, trivial⟩, hS.F ht⟩) hS.2.2 dX7_isThere_56
  · rw [if_neg c_4] at hR
    refine lv_aload_n hx hb dX7_isThere_8 rfl (lv_at hl 0 rfl) ?_
    refine va_get (D := (dC, dI)) (ci := 7) (v := .ref (aM 7)) (C := RX7) (T := TX7) (N := 15) hx hb hts hin7 hown hK hP 0 rfl rfl 9 (by decide) (hw_ hts 1 rfl) (fun _ h9 => h9) rfl dX7_isThere_9 ?_
    refine lv_iload_n hx hb dX7_isThere_12 rfl (lv_at hl 1 rfl) ?_
    obtain ⟨hix5, hR⟩ := ck_some hR
    refine va_iald (f := (M 9)) hx hb hK hP 7 0 rfl rfl hix5 dX7_isThere_13 ?_
    refine lv_if_ne (tgt := 55) hx hb dX7_isThere_14 (by decide) (fun c_6 => ?_) (fun c_6 => ?_)
    · rw [if_neg c_6] at hR
      refine lv_iconst (v := (0 : Int32)) hx hb dX7_isThere_55 (by decide) ?_
      exact W.zret (v := (0 : Int32)) (ty := .boolean) hx hb hr rfl (fun t ht hW => ⟨⟨(0 : Int32), (), rfl, ⟨Option.some.inj hR, rfl⟩, trivial⟩, hS.F ht⟩) hS.2.2 dX7_isThere_56
    · rw [if_pos c_6] at hR
      refine lv_aload_n hx hb dX7_isThere_17 rfl (lv_at hl 0 rfl) ?_
      refine lv_aload_n hx hb dX7_isThere_18 rfl (lv_at hl 0 rfl) ?_
      refine va_get (D := (dC, dI)) (ci := 7) (v := .ref (aM 1)) (C := RX7) (T := TX7) (N := 15) hx hb hts hin7 hown hK hP 0 rfl rfl 0 (by decide) (hw_ hts 2 rfl) (fun _ h9 => h9) rfl dX7_isThere_19 ?_
      refine lv_bipush (v := (89 : Int32)) hx hb dX7_isThere_22 (by decide) ?_
      refine lv_iload_n hx hb dX7_isThere_24 rfl (lv_at hl 1 rfl) ?_
      refine lv_iadd hx hb dX7_isThere_25 ?_
      obtain ⟨hix7, hR⟩ := ck_some hR
      refine va_iald (f := (M 0)) hx hb hK hP 1 0 rfl rfl hix7 dX7_isThere_26 ?_
      refine lv_iconst (v := (4 : Int32)) hx hb dX7_isThere_27 (by decide) ?_
      obtain ⟨r8, hc9, hR⟩ := ob1_e hR
      refine va_calli (va_runV (As := [.int ((M 0) (ix ((89 : Int32) + p1))), .int (4 : Int32)]) (rest := []) ⟨hx, hb, hml, hown, hts⟩ (met_X7_of l dC dI cI cZ cS aM M hs H1.size ((M 0) (ix ((89 : Int32) + p1))) (4 : Int32) r8 hc9) (cwV 2 hts gX7_isThere_X7_of rfl rfl rfl (by decide +kernel) ⟨Nat.le_of_ble_eq_true rfl, Nat.le_of_ble_eq_true rfl⟩) (pV (wc := wMo cI aM M hs) (ci := 7) (q0 := 0) hK hP hD hN [0, 1, 2, 3, 4, 5, 6, 7, 8] rfl (by decide) rfl rfl) rfl rfl hl.1 rfl (lv_room (Nat.le_of_ble_eq_true rfl)) dX7_isThere_28 ⟨Nat.zero_le _, Nat.zero_le _⟩) hS (fun q _ h => a0_in hS hA q h) (a0_in hS hA) (fun r8 u t H2 locs ht hvm hw hB hz1 hk1 hS => ?_)
      cases hw
      have hP := rdk hP hk1
      refine lv_iload_n hx hb dX7_isThere_31 rfl (lv_at hl 2 rfl) ?_
      refine lv_icmp_ne (tgt := 55) hx hb dX7_isThere_32 (by decide) (fun c_10 => ?_) (fun c_10 => ?_)
      · rw [if_neg c_10] at hR
        refine lv_iconst (v := (0 : Int32)) hx hb dX7_isThere_55 (by decide) ?_
        exact W.zret (v := (0 : Int32)) (ty := .boolean) hx hb hr rfl (fun t ht hW => ⟨⟨(0 : Int32), (), rfl, ⟨Option.some.inj hR, rfl⟩, trivial⟩, hS.F ht⟩) hS.2.2 dX7_isThere_56
      · rw [if_pos c_10] at hR
        refine lv_iload_n hx hb dX7_isThere_35 rfl (lv_at hl 1 rfl) ?_
        refine lv_iconst (v := (3 : Int32)) hx hb dX7_isThere_36 (by decide) ?_
        refine lv_idiv hx hb dX7_isThere_37 (by decide) ?_
        refine lv_iload_n hx hb dX7_isThere_38 rfl (lv_at hl 3 rfl) ?_
        refine lv_icmp_ge (tgt := 55) hx hb dX7_isThere_39 (by decide) (fun c_11 => ?_) (fun c_11 => ?_)
        · rw [if_pos c_11] at hR
          refine lv_iconst (v := (0 : Int32)) hx hb dX7_isThere_55 (by decide) ?_
          exact W.zret (v := (0 : Int32)) (ty := .boolean) hx hb hr rfl (fun t ht hW => ⟨⟨(0 : Int32), (), rfl, ⟨Option.some.inj hR, rfl⟩, trivial⟩, hS.F ht⟩) hS.2.2 dX7_isThere_56
        · rw [if_neg c_11] at hR
          refine lv_aload_n hx hb dX7_isThere_42 rfl (lv_at hl 0 rfl) ?_
          refine lv_iload_n hx hb dX7_isThere_43 rfl (lv_at hl 1 rfl) ?_
          obtain ⟨r12, hc13, hR⟩ := ob1_e hR
          refine va_calli (va_runV (As := [.int p1]) (rest := []) ⟨hx, hb, hml, hown, hts⟩ (met_X7_lastDay l dC dI cI cZ cS aM M hs H2.size p1 r12 hc13) (cwV 1 hts gX7_isThere_X7_lastDay rfl rfl rfl (by decide +kernel) ⟨Nat.le_of_ble_eq_true rfl, Nat.le_of_ble_eq_true rfl⟩) (pV (wc := wMo cI aM M hs) (ci := 7) (q0 := 0) hK hP hD hN [0, 1, 2, 3, 4, 5, 6, 7, 8] rfl (by decide) rfl rfl) rfl rfl hl.1 rfl (lv_room (Nat.le_of_ble_eq_true rfl)) dX7_isThere_44 ⟨Nat.zero_le _, Nat.zero_le _⟩) hS (fun q _ h => a0_in hS hA q h) (a0_in hS hA) (fun r12 u t H3 locs ht hvm hw hB hz1 hk1 hS => ?_)
          cases hw
          have hP := rdk hP hk1
          refine lv_iload_n hx hb dX7_isThere_47 rfl (lv_at hl 3 rfl) ?_
          refine lv_icmp_lt (tgt := 55) hx hb dX7_isThere_48 (by decide) (fun c_14 => ?_) (fun c_14 => ?_)
          · rw [if_pos c_14] at hR
            refine lv_iconst (v := (0 : Int32)) hx hb dX7_isThere_55 (by decide) ?_
            exact W.zret (v := (0 : Int32)) (ty := .boolean) hx hb hr rfl (fun t ht hW => ⟨⟨(0 : Int32), (), rfl, ⟨Option.some.inj hR, rfl⟩, trivial⟩, hS.F ht⟩) hS.2.2 dX7_isThere_56
          · rw [if_neg c_14] at hR
            refine lv_iconst (v := (1 : Int32)) hx hb dX7_isThere_51 (by decide) ?_
            refine lv_goto (tgt := 56) hx hb dX7_isThere_52 (by decide) ?_
            exact W.zret (v := (1 : Int32)) (ty := .boolean) hx hb hr rfl (fun t ht hW => ⟨⟨(1 : Int32), (), rfl, ⟨Option.some.inj hR, rfl⟩, trivial⟩, hS.F ht⟩) hS.2.2 dX7_isThere_56
abbrev rm_X7_sourceFor : Room := { frames := 3, cells := 0, slots := 0, locals := 66 }
abbrev q_X7_sourceFor (dC : Nat → ClassId) (dI : Nat → Nat → Nat) (cI cZ cS : ClassId) (aM : Nat → Nat)  (res : Int32) (A : Nat → Prop) : Array Value → State → Outcome → State → Prop := va_Qi (fun (r : Int32) (u : Unit) => r = res) (fun _ _ => True) A
set_option maxHeartbeats 4000000 in
set_option maxRecDepth 100000 in
theorem met_X7_sourceFor (l : Launch) (dC : Nat → ClassId) (dI : Nat → Nat → Nat) (cI cZ cS : ClassId) (aM : Nat → Nat) (M : Pic) (hs : Int64) (sz : Nat) (p1 : Int32) (p2 : Int32) (res : Int32) (hR : f7_sourceFor M p1 p2 = some res) : Met l yX7_sourceFor wsX7_sourceFor rm_X7_sourceFor (va_Pc [.ref (aM 0), .int p1, .int p2] (pW (dC, dI) (tyS cI cZ cS) (wMo cI aM M hs) sz)) (q_X7_sourceFor dC dI cI cZ cS aM res (a0 sz)) 0 0 (a0 sz) := by
  refine Met.ofW (cc := cX7_sourceFor) (maxL := 5) (ret := (some .int)) (by decide) rfl ?_
  intro p e s m args below meth c s₁ B hml hv
  obtain ⟨rfl, hsz, hP, hK, hD0, hN⟩ := hv
  have hx := B.exec
  have hb := B.bytes
  have hr := B.returns
  have hts := atoms_spec (ws := wsX7_sourceFor) B.pre
  have hown : s.vm.findClass RX7 = some m.cls := findClass_of_methodNamed B.named
  have hlocks := B.notSynchronized
  subst hsz
  have hD := hD0
  have hA : ∀ q : Nat, s.heap.size ≤ q → a0 s.heap.size q := fun q h => Or.inr h
  have hS : va_S (a0 s.heap.size) s.heap s.heap [] := va_S.rf
  have hP : va_P (dC, dI) vwCl (wMo cI aM M hs) s.heap := hP
  rw [f7_sourceFor] at hR
  have hl := lv_entry ([.ref (aM 0), .int p1, .int p2]) (n := 5) (Nat.le_of_ble_eq_true rfl)
  rw [lg_entry_eq]
  generalize (lg_sl ([.ref (aM 0), .int p1, .int p2]) ++ List.replicate (5 - (lg_sl ([.ref (aM 0), .int p1, .int p2])).length) Slot.unset).toArray = ls at hl ⊢
  have hl : lv_has ls 5 [(0, .ref (aM 0)), (1, .int p1), (2, .int p2)] := hl
  refine lv_iconst (v := (-1 : Int32)) hx hb dX7_sourceFor_0 (by decide) ?_
  refine lv_istore_n (lv' := [(3, .int (-1 : Int32)), (0, .ref (aM 0)), (1, .int p1), (2, .int p2)]) hx hb dX7_sourceFor_1 rfl hl (by decide) rfl (fun ls hl => ?_)
  refine lv_iconst (v := (0 : Int32)) hx hb dX7_sourceFor_2 (by decide) ?_
  refine lv_istore (lv' := [(4, .int (0 : Int32)), (3, .int (-1 : Int32)), (0, .ref (aM 0)), (1, .int p1), (2, .int p2)]) hx hb dX7_sourceFor_3 hl (by decide) rfl (fun ls hl => ?_)
  have LOOP5 : ∀ (k : Int32 → (Option (Int32))), (∀ (x3_5 : Int32) (H1 : Heap) (locs : List Loc), k x3_5 = some res → va_P (dC, dI) vwCl (wMo cI aM M hs) H1 → va_D (fun _ => True) (wMo cI aM M hs) → va_S (a0 s.heap.size) s.heap H1 locs → ∀ (ls : Array Slot), lv_has ls 5 [(3, .int x3_5)] → W p l e (headSpec wsX7_sourceFor rm_X7_sourceFor).room s m ([.ref (aM 0), .int p1, .int p2] : List Value).toArray below meth c H1 locs 0 0 (MQ below (q_X7_sourceFor dC dI cI cZ cS aM res (a0 s.heap.size)) ([.ref (aM 0), .int p1, .int p2] : List Value).toArray s 0 0 (a0 s.heap.size)) (F0 m 56 ls [])) → ∀ (nf : Nat) (x3_5 : Int32) (x4_5 : Int32) (H1 : Heap) (locs : List Loc), (((3 : Int32) * p2)).toInt - (x4_5).toInt ≤ (nf : Int) → f7_sourceFor_L5 M p1 p2 nf x3_5 x4_5 k = some res → va_P (dC, dI) vwCl (wMo cI aM M hs) H1 → va_D (fun _ => True) (wMo cI aM M hs) → va_S (a0 s.heap.size) s.heap H1 locs → ∀ (ls : Array Slot), lv_has ls 5 [(3, .int x3_5), (4, .int x4_5), (0, .ref (aM 0)), (1, .int p1), (2, .int p2)] → W p l e (headSpec wsX7_sourceFor rm_X7_sourceFor).room s m ([.ref (aM 0), .int p1, .int p2] : List Value).toArray below meth c H1 locs 0 0 (MQ below (q_X7_sourceFor dC dI cI cZ cS aM res (a0 s.heap.size)) ([.ref (aM 0), .int p1, .int p2] : List Value).toArray s 0 0 (a0 s.heap.size)) (F0 m 5 ls []) := by
    intro k hk nf
    induction nf with
    | zero =>
      intro x3_5 x4_5 H1 locs hfu hR hP hD hS ls hl
      rw [f7_sourceFor_L5] at hR
      refine lv_iload hx hb dX7_sourceFor_5 (lv_at hl 1 rfl) ?_
      refine lv_iconst (v := (3 : Int32)) hx hb dX7_sourceFor_7 (by decide) ?_
      refine lv_iload_n hx hb dX7_sourceFor_8 rfl (lv_at hl 4 rfl) ?_
      refine lv_imul hx hb dX7_sourceFor_9 ?_
      refine lv_icmp_ge (tgt := 56) hx hb dX7_sourceFor_10 (by decide) (fun c_1 => ?_) (fun c_1 => ?_)
      · skip
        exact hk x3_5 _ _  hR hP hD hS ls (lv_sub hl [0] rfl)
      · exact (fuel0 hfu c_1).elim
    | succ nf ih =>
      intro x3_5 x4_5 H1 locs hfu hR hP hD hS ls hl
      rw [f7_sourceFor_L5] at hR
      refine lv_iload hx hb dX7_sourceFor_5 (lv_at hl 1 rfl) ?_
      refine lv_iconst (v := (3 : Int32)) hx hb dX7_sourceFor_7 (by decide) ?_
      refine lv_iload_n hx hb dX7_sourceFor_8 rfl (lv_at hl 4 rfl) ?_
      refine lv_imul hx hb dX7_sourceFor_9 ?_
      refine lv_icmp_ge (tgt := 56) hx hb dX7_sourceFor_10 (by decide) (fun c_2 => ?_) (fun c_2 => ?_)
      · rw [if_pos c_2] at hR
        exact hk x3_5 _ _  hR hP hD hS ls (lv_sub hl [0] rfl)
      · rw [if_neg c_2] at hR
        have hfu := fuelS hfu c_2
        refine lv_aload_n hx hb dX7_sourceFor_13 rfl (lv_at hl 2 rfl) ?_
        refine lv_iload hx hb dX7_sourceFor_14 (lv_at hl 1 rfl) ?_
        refine lv_iload_n hx hb dX7_sourceFor_16 rfl (lv_at hl 3 rfl) ?_
        refine lv_iload_n hx hb dX7_sourceFor_17 rfl (lv_at hl 4 rfl) ?_
        obtain ⟨r3, hc4, hR⟩ := ob1_e hR
        refine va_calli (va_runV (As := [.int x4_5, .int p1, .int p2]) (rest := []) ⟨hx, hb, hml, hown, hts⟩ (met_X7_isThere l dC dI cI cZ cS aM M hs H1.size x4_5 p1 p2 r3 hc4) (cwV 3 hts gX7_sourceFor_X7_isThere rfl rfl rfl (by decide +kernel) ⟨Nat.le_of_ble_eq_true rfl, Nat.le_of_ble_eq_true rfl⟩) (pV (wc := wMo cI aM M hs) (ci := 7) (q0 := 0) hK hP hD hN [0, 1, 2, 3, 4, 5, 6, 7, 8] rfl (by decide) rfl rfl) rfl rfl hl.1 rfl (lv_room (Nat.le_of_ble_eq_true rfl)) dX7_sourceFor_18 ⟨Nat.zero_le _, Nat.zero_le _⟩) hS (fun q _ h => a0_in hS hA q h) (a0_in hS hA) (fun r3 u t H2 locs ht hvm hw hB hz1 hk1 hS => ?_)
        obtain ⟨hw, nb5⟩ := hw
        cases hw
        have hP := rdk hP hk1
        refine lv_if_eq (tgt := 48) hx hb dX7_sourceFor_21 (by decide) (fun c_6 => ?_) (fun c_6 => ?_)
        · rw [if_pos c_6] at hR
          refine lv_iload_n hx hb dX7_sourceFor_48 rfl (lv_at hl 0 rfl) ?_
          refine lv_istore_n (lv' := [(3, .int x3_5), (4, .int x4_5), (0, .ref (aM 0)), (1, .int p1), (2, .int p2)]) hx hb dX7_sourceFor_49 rfl hl (by decide) rfl (fun ls hl => ?_)
          refine lv_iinc (v := (x4_5 + 1)) (lv' := [(4, .int (x4_5 + 1)), (3, .int x3_5), (0, .ref (aM 0)), (1, .int p1), (2, .int p2)]) hx hb dX7_sourceFor_50 hl (k := 1) rfl rfl (by decide) rfl (fun ls hl => ?_)
          refine lv_goto (tgt := 5) hx hb dX7_sourceFor_53 (by decide) ?_
          exact ih x3_5 (x4_5 + 1) _ _ hfu hR hP hD hS ls (lv_sub hl [1, 0, 2, 3, 4] rfl)
        · rw [if_neg c_6] at hR
          refine lv_iload_n hx hb dX7_sourceFor_24 rfl (lv_at hl 0 rfl) ?_
          refine lv_iconst (v := (-1 : Int32)) hx hb dX7_sourceFor_25 (by decide) ?_
          refine lv_icmp_eq (tgt := 43) hx hb dX7_sourceFor_26 (by decide) (fun c_7 => ?_) (fun c_7 => ?_)
          · rw [if_pos c_7] at hR
            refine lv_iload hx hb dX7_sourceFor_43 (lv_at hl 1 rfl) ?_
            refine lv_goto (tgt := 49) hx hb dX7_sourceFor_45 (by decide) ?_
            refine lv_istore_n (lv' := [(3, .int x4_5), (4, .int x4_5), (0, .ref (aM 0)), (1, .int p1), (2, .int p2)]) hx hb dX7_sourceFor_49 rfl hl (by decide) rfl (fun ls hl => ?_)
            refine lv_iinc (v := (x4_5 + 1)) (lv' := [(4, .int (x4_5 + 1)), (3, .int x4_5), (0, .ref (aM 0)), (1, .int p1), (2, .int p2)]) hx hb dX7_sourceFor_50 hl (k := 1) rfl rfl (by decide) rfl (fun ls hl => ?_)
            refine lv_goto (tgt := 5) hx hb dX7_sourceFor_53 (by decide) ?_
            exact ih x4_5 (x4_5 + 1) _ _ hfu hR hP hD hS ls (lv_sub hl [1, 0, 2, 3, 4] rfl)
          · rw [if_neg c_7] at hR
            refine lv_aload_n hx hb dX7_sourceFor_29 rfl (lv_at hl 2 rfl) ?_
            refine lv_iload hx hb dX7_sourceFor_30 (lv_at hl 1 rfl) ?_
            obtain ⟨r8, hc9, hR⟩ := ob1_e hR
            refine va_calli (va_runV (As := [.int x4_5]) (rest := []) ⟨hx, hb, hml, hown, hts⟩ (met_X7_lastDay l dC dI cI cZ cS aM M hs H2.size x4_5 r8 hc9) (cwV 1 hts gX7_sourceFor_X7_lastDay rfl rfl rfl (by decide +kernel) ⟨Nat.le_of_ble_eq_true rfl, Nat.le_of_ble_eq_true rfl⟩) (pV (wc := wMo cI aM M hs) (ci := 7) (q0 := 0) hK hP hD hN [0, 1, 2, 3, 4, 5, 6, 7, 8] rfl (by decide) rfl rfl) rfl rfl hl.1 rfl (lv_room (Nat.le_of_ble_eq_true rfl)) dX7_sourceFor_32 ⟨Nat.zero_le _, Nat.zero_le _⟩) hS (fun q _ h => a0_in hS hA q h) (a0_in hS hA) (fun r8 u t H3 locs ht hvm hw hB hz1 hk1 hS => ?_)
            cases hw
            have hP := rdk hP hk1
            refine lv_aload_n hx hb dX7_sourceFor_35 rfl (lv_at hl 2 rfl) ?_
            refine lv_iload_n hx hb dX7_sourceFor_36 rfl (lv_at hl 0 rfl) ?_
            obtain ⟨r10, hc11, hR⟩ := ob1_e hR
            refine va_calli (va_runV (As := [.int x3_5]) (rest := [.int r8]) ⟨hx, hb, hml, hown, hts⟩ (met_X7_lastDay l dC dI cI cZ cS aM M hs H3.size x3_5 r10 hc11) (cwV 1 hts gX7_sourceFor_X7_lastDay rfl rfl rfl (by decide +kernel) ⟨Nat.le_of_ble_eq_true rfl, Nat.le_of_ble_eq_true rfl⟩) (pV (wc := wMo cI aM M hs) (ci := 7) (q0 := 0) hK hP hD hN [0, 1, 2, 3, 4, 5, 6, 7, 8] rfl (by decide) rfl rfl) rfl rfl hl.1 rfl (lv_room (Nat.le_of_ble_eq_true rfl)) dX7_sourceFor_37 ⟨Nat.zero_le _, Nat.zero_le _⟩) hS (fun q _ h => a0_in hS hA q h) (a0_in hS hA) (fun r10 u t H4 locs ht hvm hw hB hz1 hk1 hS => ?_)
            cases hw
            have hP := rdk hP hk1
            refine lv_icmp_ge (tgt := 48) hx hb dX7_sourceFor_40 (by decide) (fun c_12 => ?_) (fun c_12 => ?_)
            · rw [if_pos c_12] at hR
              refine lv_iload_n hx hb dX7_sourceFor_48 rfl (lv_at hl 0 rfl) ?_
              refine lv_istore_n (lv' := [(3, .int x3_5), (4, .int x4_5), (0, .ref (aM 0)), (1, .int p1), (2, .int p2)]) hx hb dX7_sourceFor_49 rfl hl (by decide) rfl (fun ls hl => ?_)
              refine lv_iinc (v := (x4_5 + 1)) (lv' := [(4, .int (x4_5 + 1)), (3, .int x3_5), (0, .ref (aM 0)), (1, .int p1), (2, .int p2)]) hx hb dX7_sourceFor_50 hl (k := 1) rfl rfl (by decide) rfl (fun ls hl => ?_)
              refine lv_goto (tgt := 5) hx hb dX7_sourceFor_53 (by decide) ?_
              exact ih x3_5 (x4_5 + 1) _ _ hfu hR hP hD hS ls (lv_sub hl [1, 0, 2, 3, 4] rfl)
            · rw [if_neg c_12] at hR
              refine lv_iload hx hb dX7_sourceFor_43 (lv_at hl 1 rfl) ?_
              refine lv_goto (tgt := 49) hx hb dX7_sourceFor_45 (by decide) ?_
              refine lv_istore_n (lv' := [(3, .int x4_5), (4, .int x4_5), (0, .ref (aM 0)), (1, .int p1), (2, .int p2)]) hx hb dX7_sourceFor_49 rfl hl (by decide) rfl (fun ls hl => ?_)
              refine lv_iinc (v := (x4_5 + 1)) (lv' := [(4, .int (x4_5 + 1)), (3, .int x4_5), (0, .ref (aM 0)), (1, .int p1), (2, .int p2)]) hx hb dX7_sourceFor_50 hl (k := 1) rfl rfl (by decide) rfl (fun ls hl => ?_)
              refine lv_goto (tgt := 5) hx hb dX7_sourceFor_53 (by decide) ?_
              exact ih x4_5 (x4_5 + 1) _ _ hfu hR hP hD hS ls (lv_sub hl [1, 0, 2, 3, 4] rfl)
  refine LOOP5 (fun x3_5 => (some x3_5)) (fun x3_5 H1 locs hR hP hD hS ls hl => ?_) (fuelN (0 : Int32) ((3 : Int32) * p2)) (-1 : Int32) (0 : Int32) _ _ (fuelE _ _) hR hP hD hS ls (lv_sub hl [1, 0, 2, 3, 4] rfl)
  try dsimp only at hR
  refine lv_iload_n hx hb dX7_sourceFor_56 rfl (lv_at hl 0 rfl) ?_
  exact W.iret (v := x3_5) hx hb hr (fun t ht hW => ⟨⟨x3_5, (), rfl, Option.some.inj hR, trivial⟩, hS.F ht⟩) hS.2.2 dX7_sourceFor_57
