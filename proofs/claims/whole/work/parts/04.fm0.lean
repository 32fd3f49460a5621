abbrev rm_X6_isWithin : Room := { frames := 0, cells := 0, slots := 0, locals := 0 }
abbrev q_X6_isWithin (dC : Nat → ClassId) (dI : Nat → Nat → Nat) (cI cZ cS : ClassId)   (res : Int32) (A : Nat → Prop) : Array Value → State → Outcome → State → Prop := va_Qi (fun (r : Int32) (u : Unit) => r = res ∧ narrow .boolean (.int r) = .int r) (fun _ _ => True) A
set_option maxHeartbeats 4000000 in
set_option maxRecDepth 100000 in
theorem met_X6_isWithin (l : Launch) (dC : Nat → ClassId) (dI : Nat → Nat → Nat) (cI cZ cS : ClassId)  (sz : Nat) (p1 : Int32) (p2 : Int32) (p3 : Int32) : Met l yX6_isWithin wsX6_isWithin rm_X6_isWithin (va_Pc [.int p1, .int p2, .int p3] (pW (dC, dI) (tyS cI cZ cS) ([]) sz)) (q_X6_isWithin dC dI cI cZ cS (f6_isWithin p1 p2 p3) (a0 sz)) 0 0 (a0 sz) := by
  refine Met.ofW (cc := cX6_isWithin) (maxL := 3) (ret := (some .boolean)) (by decide) rfl ?_
  intro p e s m args below meth c s₁ B hml hv
  obtain ⟨rfl, hsz, hP, hK, hD0, hN⟩ := hv
  have hx := B.exec
  have hb := B.bytes
  have hr := B.returns
  have hts := atoms_spec (ws := wsX6_isWithin) B.pre
  have hown : s.vm.findClass RX6 = some m.cls := findClass_of_methodNamed B.named
  have hlocks := B.notSynchronized
  subst hsz
  have hD := hD0
  have hA : ∀ q : Nat, s.heap.size ≤ q → a0 s.heap.size q := fun q h => Or.inr h
  have hS : va_S (a0 s.heap.size) s.heap s.heap [] := va_S.rf
  have hP : va_P (dC, dI) vwCl ([]) s.heap := hP
  generalize hR : f6_isWithin p1 p2 p3 = res
  rw [f6_isWithin] at hR
  have hl := lv_entry ([.int p1, .int p2, .int p3]) (n := 3) (Nat.le_of_ble_eq_true rfl)
  rw [lg_entry_eq]
  generalize (lg_sl ([.int p1, .int p2, .int p3]) ++ List.replicate (3 - (lg_sl ([.int p1, .int p2, .int p3])).length) Slot.unset).toArray = ls at hl ⊢
  have hl : lv_has ls 3 [(0, .int p1), (1, .int p2), (2, .int p3)] := hl
  refine lv_iload_n hx hb dX6_isWithin_0 rfl (lv_at hl 0 rfl) ?_
  refine lv_iload_n hx hb dX6_isWithin_1 rfl (lv_at hl 1 rfl) ?_
  refine lv_icmp_lt (tgt := 14) hx hb dX6_isWithin_2 (by decide) (fun c_1 => ?_) (fun c_1 => ?_)
  · rw [if_pos c_1] at hR
    refine lv_iconst (v := (0 : Int32)) hx hb dX6_isWithin_14 (by decide) ?_
    exact W.zret (v := (0 : Int32)) (ty := .boolean) hx hb hr rfl (fun t ht hW => ⟨⟨(0 : Int32), (), rfl, ⟨hR, rfl⟩, trivial⟩, hS.F ht⟩) hS.2.2 dX6_isWithin_15
  · rw [if_neg c_1] at hR
    refine lv_iload_n hx hb dX6_isWithin_5 rfl (lv_at hl 0 rfl) ?_
    refine lv_iload_n hx hb dX6_isWithin_6 rfl (lv_at hl 2 rfl) ?_
    refine lv_icmp_gt (tgt := 14) hx hb dX6_isWithin_7 (by decide) (fun c_2 => ?_) (fun c_2 => ?_)
    · rw [if_pos c_2] at hR
      refine lv_iconst (v := (0 : Int32)) hx hb dX6_isWithin_14 (by decide) ?_
      exact W.zret (v := (0 : Int32)) (ty := .boolean) hx hb hr rfl (fun t ht hW => ⟨⟨(0 : Int32), (), rfl, ⟨hR, rfl⟩, trivial⟩, hS.F ht⟩) hS.2.2 dX6_isWithin_15
    · rw [if_neg c_2] at hR
      refine lv_iconst (v := (1 : Int32)) hx hb dX6_isWithin_10 (by decide) ?_
      refine lv_goto (tgt := 15) hx hb dX6_isWithin_11 (by decide) ?_
      exact W.zret (v := (1 : Int32)) (ty := .boolean) hx hb hr rfl (fun t ht hW => ⟨⟨(1 : Int32), (), rfl, ⟨hR, rfl⟩, trivial⟩, hS.F ht⟩) hS.2.2 dX6_isWithin_15
abbrev rm_X6_isDay : Room := { frames := 0, cells := 0, slots := 0, locals := 0 }
abbrev q_X6_isDay (dC : Nat → ClassId) (dI : Nat → Nat → Nat) (cI cZ cS : ClassId)   (res : Int32) (A : Nat → Prop) : Array Value → State → Outcome → State → Prop := va_Qi (fun (r : Int32) (u : Unit) => r = res ∧ narrow .boolean (.int r) = .int r) (fun _ _ => True) A
set_option maxHeartbeats 4000000 in
set_option maxRecDepth 100000 in
theorem met_X6_isDay (l : Launch) (dC : Nat → ClassId) (dI : Nat → Nat → Nat) (cI cZ cS : ClassId)  (sz : Nat) (p1 : Int32) : Met l yX6_isDay wsX6_isDay rm_X6_isDay (va_Pc [.int p1] (pW (dC, dI) (tyS cI cZ cS) ([]) sz)) (q_X6_isDay dC dI cI cZ cS (f6_isDay p1) (a0 sz)) 0 0 (a0 sz) := by
  refine Met.ofW (cc := cX6_isDay) (maxL := 1) (ret := (some .boolean)) (by decide) rfl ?_
  intro p e s m args below meth c s₁ B hml hv
  obtain ⟨rfl, hsz, hP, hK, hD0, hN⟩ := hv
  have hx := B.exec
  have hb := B.bytes
  have hr := B.returns
  have hts := atoms_spec (ws := wsX6_isDay) B.pre
  have hown : s.vm.findClass RX6 = some m.cls := findClass_of_methodNamed B.named
  have hlocks := B.notSynchronized
  subst hsz
  have hD := hD0
  have hA : ∀ q : Nat, s.heap.size ≤ q → a0 s.heap.size q := fun q h => Or.inr h
  have hS : va_S (a0 s.heap.size) s.heap s.heap [] := va_S.rf
  have hP : va_P (dC, dI) vwCl ([]) s.heap := hP
  generalize hR : f6_isDay p1 = res
  rw [f6_isDay] at hR
  have hl := lv_entry ([.int p1]) (n := 1) (Nat.le_of_ble_eq_true rfl)
  rw [lg_entry_eq]
  generalize (lg_sl ([.int p1]) ++ List.replicate (1 - (lg_sl ([.int p1])).length) Slot.unset).toArray = ls at hl ⊢
  have hl : lv_has ls 1 [(0, .int p1)] := hl
  refine lv_iload_n hx hb dX6_isDay_0 rfl (lv_at hl 0 rfl) ?_
  refine lv_if_lt (tgt := 14) hx hb dX6_isDay_1 (by decide) (fun c_1 => ?_) (fun c_1 => ?_)
  · rw [if_pos c_1] at hR
    refine lv_iconst (v := (0 : Int32)) hx hb dX6_isDay_14 (by decide) ?_
    exact W.zret (v := (0 : Int32)) (ty := .boolean) hx hb hr rfl (fun t ht hW => ⟨⟨(0 : Int32), (), rfl, ⟨hR, rfl⟩, trivial⟩, hS.F ht⟩) hS.2.2 dX6_isDay_15
  · rw [if_neg c_1] at hR
    refine lv_iload_n hx hb dX6_isDay_4 rfl (lv_at hl 0 rfl) ?_
    refine lv_bipush (v := (28 : Int32)) hx hb dX6_isDay_5 (by decide) ?_
    refine lv_icmp_ge (tgt := 14) hx hb dX6_isDay_7 (by decide) (fun c_2 => ?_) (fun c_2 => ?_)
    · rw [if_pos c_2] at hR
      refine lv_iconst (v := (0 : Int32)) hx hb dX6_isDay_14 (by decide) ?_
      exact W.zret (v := (0 : Int32)) (ty := .boolean) hx hb hr rfl (fun t ht hW => ⟨⟨(0 : Int32), (), rfl, ⟨hR, rfl⟩, trivial⟩, hS.F ht⟩) hS.2.2 dX6_isDay_15
    · rw [if_neg c_2] at hR
      refine lv_iconst (v := (1 : Int32)) hx hb dX6_isDay_10 (by decide) ?_
      refine lv_goto (tgt := 15) hx hb dX6_isDay_11 (by decide) ?_
      exact W.zret (v := (1 : Int32)) (ty := .boolean) hx hb hr rfl (fun t ht hW => ⟨⟨(1 : Int32), (), rfl, ⟨hR, rfl⟩, trivial⟩, hS.F ht⟩) hS.2.2 dX6_isDay_15
abbrev rm_X6_isPart : Room := { frames := 0, cells := 0, slots := 0, locals := 0 }
abbrev q_X6_isPart (dC : Nat → ClassId) (dI : Nat → Nat → Nat) (cI cZ cS : ClassId)   (res : Int32) (A : Nat → Prop) : Array Value → State → Outcome → State → Prop := va_Qi (fun (r : Int32) (u : Unit) => r = res ∧ narrow .boolean (.int r) = .int r) (fun _ _ => True) A
set_option maxHeartbeats 4000000 in
set_option maxRecDepth 100000 in
theorem met_X6_isPart (l : Launch) (dC : Nat → ClassId) (dI : Nat → Nat → Nat) (cI cZ cS : ClassId)  (sz : Nat) (p1 : Int32) : Met l yX6_isPart wsX6_isPart rm_X6_isPart (va_Pc [.int p1] (pW (dC, dI) (tyS cI cZ cS) ([]) sz)) (q_X6_isPart dC dI cI cZ cS (f6_isPart p1) (a0 sz)) 0 0 (a0 sz) := by
  refine Met.ofW (cc := cX6_isPart) (maxL := 1) (ret := (some .boolean)) (by decide) rfl ?_
  intro p e s m args below meth c s₁ B hml hv
  obtain ⟨rfl, hsz, hP, hK, hD0, hN⟩ := hv
  have hx := B.exec
  have hb := B.bytes
  have hr := B.returns
  have hts := atoms_spec (ws := wsX6_isPart) B.pre
  have hown : s.vm.findClass RX6 = some m.cls := findClass_of_methodNamed B.named
  have hlocks := B.notSynchronized
  subst hsz
  have hD := hD0
  have hA : ∀ q : Nat, s.heap.size ≤ q → a0 s.heap.size q := fun q h => Or.inr h
  have hS : va_S (a0 s.heap.size) s.heap s.heap [] := va_S.rf
  have hP : va_P (dC, dI) vwCl ([]) s.heap := hP
  generalize hR : f6_isPart p1 = res
  rw [f6_isPart] at hR
  have hl := lv_entry ([.int p1]) (n := 1) (Nat.le_of_ble_eq_true rfl)
  rw [lg_entry_eq]
  generalize (lg_sl ([.int p1]) ++ List.replicate (1 - (lg_sl ([.int p1])).length) Slot.unset).toArray = ls at hl ⊢
  have hl : lv_has ls 1 [(0, .int p1)] := hl
  refine lv_iload_n hx hb dX6_isPart_0 rfl (lv_at hl 0 rfl) ?_
  refine lv_if_lt (tgt := 13) hx hb dX6_isPart_1 (by decide) (fun c_1 => ?_) (fun c_1 => ?_)
  · rw [if_pos c_1] at hR
    refine lv_iconst (v := (0 : Int32)) hx hb dX6_isPart_13 (by decide) ?_
    exact W.zret (v := (0 : Int32)) (ty := .boolean) hx hb hr rfl (fun t ht hW => ⟨⟨(0 : Int32), (), rfl, ⟨hR, rfl⟩, trivial⟩, hS.F ht⟩) hS.2.2 dX6_isPart_14
  · rw [if_neg c_1] at hR
    refine lv_iload_n hx hb dX6_isPart_4 rfl (lv_at hl 0 rfl) ?_
    refine lv_iconst (v := (3 : Int32)) hx hb dX6_isPart_5 (by decide) ?_
    refine lv_icmp_ge (tgt := 13) hx hb dX6_isPart_6 (by decide) (fun c_2 => ?_) (fun c_2 => ?_)
    · rw [if_pos c_2] at hR
      refine lv_iconst (v := (0 : Int32)) hx hb dX6_isPart_13 (by decide) ?_
      exact W.zret (v := (0 : Int32)) (ty := .boolean) hx hb hr rfl (fun t ht hW => ⟨⟨(0 : Int32), (), rfl, ⟨hR, rfl⟩, trivial⟩, hS.F ht⟩) hS.2.2 dX6_isPart_14
    · rw [if_neg c_2] at hR
      refine lv_iconst (v := (1 : Int32)) hx hb dX6_isPart_9 (by decide) ?_
      refine lv_goto (tgt := 14) hx hb dX6_isPart_10 (by decide) ?_
      exact W.zret (v := (1 : Int32)) (ty := .boolean) hx hb hr rfl (fun t ht hW => ⟨⟨(1 : Int32), (), rfl, ⟨hR, rfl⟩, trivial⟩, hS.F ht⟩) hS.2.2 dX6_isPart_14
abbrev rm_X6_cellOf : Room := { frames := 0, cells := 0, slots := 0, locals := 0 }
abbrev q_X6_cellOf (dC : Nat → ClassId) (dI : Nat → Nat → Nat) (cI cZ cS : ClassId)   (res : Int32) (A : Nat → Prop) : Array Value → State → Outcome → State → Prop := va_Qi (fun (r : Int32) (u : Unit) => r = res) (fun _ _ => True) A
set_option maxHeartbeats 4000000 in
set_option maxRecDepth 100000 in
theorem met_X6_cellOf (l : Launch) (dC : Nat → ClassId) (dI : Nat → Nat → Nat) (cI cZ cS : ClassId)  (sz : Nat) (p1 : Int32) (p2 : Int32) : Met l yX6_cellOf wsX6_cellOf rm_X6_cellOf (va_Pc [.int p1, .int p2] (pW (dC, dI) (tyS cI cZ cS) ([]) sz)) (q_X6_cellOf dC dI cI cZ cS (f6_cellOf p1 p2) (a0 sz)) 0 0 (a0 sz) := by
  refine Met.ofW (cc := cX6_cellOf) (maxL := 2) (ret := (some .int)) (by decide) rfl ?_
  intro p e s m args below meth c s₁ B hml hv
  obtain ⟨rfl, hsz, hP, hK, hD0, hN⟩ := hv
  have hx := B.exec
  have hb := B.bytes
  have hr := B.returns
  have hts := atoms_spec (ws := wsX6_cellOf) B.pre
  have hown : s.vm.findClass RX6 = some m.cls := findClass_of_methodNamed B.named
  have hlocks := B.notSynchronized
  subst hsz
  have hD := hD0
  have hA : ∀ q : Nat, s.heap.size ≤ q → a0 s.heap.size q := fun q h => Or.inr h
  have hS : va_S (a0 s.heap.size) s.heap s.heap [] := va_S.rf
  have hP : va_P (dC, dI) vwCl ([]) s.heap := hP
  generalize hR : f6_cellOf p1 p2 = res
  rw [f6_cellOf] at hR
  have hl := lv_entry ([.int p1, .int p2]) (n := 2) (Nat.le_of_ble_eq_true rfl)
  rw [lg_entry_eq]
  generalize (lg_sl ([.int p1, .int p2]) ++ List.replicate (2 - (lg_sl ([.int p1, .int p2])).length) Slot.unset).toArray = ls at hl ⊢
  have hl : lv_has ls 2 [(0, .int p1), (1, .int p2)] := hl
  refine lv_iload_n hx hb dX6_cellOf_0 rfl (lv_at hl 0 rfl) ?_
  refine lv_iconst (v := (3 : Int32)) hx hb dX6_cellOf_1 (by decide) ?_
  refine lv_imul hx hb dX6_cellOf_2 ?_
  refine lv_iload_n hx hb dX6_cellOf_3 rfl (lv_at hl 1 rfl) ?_
  refine lv_iadd hx hb dX6_cellOf_4 ?_
  exact W.iret (v := ((p1 * (3 : Int32)) + p2)) hx hb hr (fun t ht hW => ⟨⟨((p1 * (3 : Int32)) + p2), (), rfl, hR, trivial⟩, hS.F ht⟩) hS.2.2 dX6_cellOf_5
abbrev rm_X6_leastValue : Room := { frames := 0, cells := 0, slots := 0, locals := 0 }
abbrev q_X6_leastValue (dC : Nat → ClassId) (dI : Nat → Nat → Nat) (cI cZ cS : ClassId)   (res : Int32) (A : Nat → Prop) : Array Value → State → Outcome → State → Prop := va_Qi (fun (r : Int32) (u : Unit) => r = res) (fun _ _ => True) A
set_option maxHeartbeats 4000000 in
set_option maxRecDepth 100000 in
theorem met_X6_leastValue (l : Launch) (dC : Nat → ClassId) (dI : Nat → Nat → Nat) (cI cZ cS : ClassId)  (sz : Nat) (p1 : Int32) : Met l yX6_leastValue wsX6_leastValue rm_X6_leastValue (va_Pc [.int p1] (pW (dC, dI) (tyS cI cZ cS) ([]) sz)) (q_X6_leastValue dC dI cI cZ cS (f6_leastValue p1) (a0 sz)) 0 0 (a0 sz) := by
  refine Met.ofW (cc := cX6_leastValue) (maxL := 1) (ret := (some .int)) (by decide) rfl ?_
  intro p e s m args below meth c s₁ B hml hv
  obtain ⟨rfl, hsz, hP, hK, hD0, hN⟩ := hv
  have hx := B.exec
  have hb := B.bytes
  have hr := B.returns
  have hts := atoms_spec (ws := wsX6_leastValue) B.pre
  have hown : s.vm.findClass RX6 = some m.cls := findClass_of_methodNamed B.named
  have hlocks := B.notSynchronized
  subst hsz
  have hD := hD0
  have hA : ∀ q : Nat, s.heap.size ≤ q → a0 s.heap.size q := fun q h => Or.inr h
  have hS : va_S (a0 s.heap.size) s.heap s.heap [] := va_S.rf
  have hP : va_P (dC, dI) vwCl ([]) s.heap := hP
  generalize hR : f6_leastValue p1 = res
  rw [f6_leastValue] at hR
  have hl := lv_entry ([.int p1]) (n := 1) (Nat.le_of_ble_eq_true rfl)
  rw [lg_entry_eq]
  generalize (lg_sl ([.int p1]) ++ List.replicate (1 - (lg_sl ([.int p1])).length) Slot.unset).toArray = ls at hl ⊢
  have hl : lv_has ls 1 [(0, .int p1)] := hl
  refine lv_iload_n hx hb dX6_leastValue_0 rfl (lv_at hl 0 rfl) ?_
  refine lv_iconst (v := (1 : Int32)) hx hb dX6_leastValue_1 (by decide) ?_
  refine lv_icmp_ne (tgt := 9) hx hb dX6_leastValue_2 (by decide) (fun c_1 => ?_) (fun c_1 => ?_)
  · rw [if_neg c_1] at hR
    refine lv_iconst (v := (0 : Int32)) hx hb dX6_leastValue_9 (by decide) ?_
    exact W.iret (v := (0 : Int32)) hx hb hr (fun t ht hW => ⟨⟨(0 : Int32), (), rfl, hR, trivial⟩, hS.F ht⟩) hS.2.2 dX6_leastValue_10
  · rw [if_pos c_1] at hR
    refine lv_iconst (v := (1 : Int32)) hx hb dX6_leastValue_5 (by decide) ?_
    refine lv_goto (tgt := 10) hx hb dX6_leastValue_6 (by decide) ?_
    exact W.iret (v := (1 : Int32)) hx hb hr (fun t ht hW => ⟨⟨(1 : Int32), (), rfl, hR, trivial⟩, hS.F ht⟩) hS.2.2 dX6_leastValue_10
abbrev rm_X6_greatestValue : Room := { frames := 0, cells := 0, slots := 0, locals := 0 }
abbrev q_X6_greatestValue (dC : Nat → ClassId) (dI : Nat → Nat → Nat) (cI cZ cS : ClassId)   (res : Int32) (A : Nat → Prop) : Array Value → State → Outcome → State → Prop := va_Qi (fun (r : Int32) (u : Unit) => r = res) (fun _ _ => True) A
set_option maxHeartbeats 4000000 in
set_option maxRecDepth 100000 in
theorem met_X6_greatestValue (l : Launch) (dC : Nat → ClassId) (dI : Nat → Nat → Nat) (cI cZ cS : ClassId)  (sz : Nat) (p1 : Int32) : Met l yX6_greatestValue wsX6_greatestValue rm_X6_greatestValue (va_Pc [.int p1] (pW (dC, dI) (tyS cI cZ cS) ([]) sz)) (q_X6_greatestValue dC dI cI cZ cS (f6_greatestValue p1) (a0 sz)) 0 0 (a0 sz) := by
  refine Met.ofW (cc := cX6_greatestValue) (maxL := 1) (ret := (some .int)) (by decide) rfl ?_
  intro p e s m args below meth c s₁ B hml hv
  obtain ⟨rfl, hsz, hP, hK, hD0, hN⟩ := hv
  have hx := B.exec
  have hb := B.bytes
  have hr := B.returns
  have hts := atoms_spec (ws := wsX6_greatestValue) B.pre
  have hown : s.vm.findClass RX6 = some m.cls := findClass_of_methodNamed B.named
  have hlocks := B.notSynchronized
  subst hsz
  have hD := hD0
  have hA : ∀ q : Nat, s.heap.size ≤ q → a0 s.heap.size q := fun q h => Or.inr h
  have hS : va_S (a0 s.heap.size) s.heap s.heap [] := va_S.rf
  have hP : va_P (dC, dI) vwCl ([]) s.heap := hP
  generalize hR : f6_greatestValue p1 = res
  rw [f6_greatestValue] at hR
  have hl := lv_entry ([.int p1]) (n := 1) (Nat.le_of_ble_eq_true rfl)
  rw [lg_entry_eq]
  generalize (lg_sl ([.int p1]) ++ List.replicate (1 - (lg_sl ([.int p1])).length) Slot.unset).toArray = ls at hl ⊢
  have hl : lv_has ls 1 [(0, .int p1)] := hl
  refine lv_iload_n hx hb dX6_greatestValue_0 rfl (lv_at hl 0 rfl) ?_
  refine lv_if_ne (tgt := 7) hx hb dX6_greatestValue_1 (by decide) (fun c_1 => ?_) (fun c_1 => ?_)
  · rw [if_neg c_1] at hR
    refine lv_iload_n hx hb dX6_greatestValue_7 rfl (lv_at hl 0 rfl) ?_
    refine lv_iconst (v := (1 : Int32)) hx hb dX6_greatestValue_8 (by decide) ?_
    refine lv_icmp_ne (tgt := 17) hx hb dX6_greatestValue_9 (by decide) (fun c_2 => ?_) (fun c_2 => ?_)
    · rw [if_neg c_2] at hR
      refine lv_sipush (v := (999 : Int32)) hx hb dX6_greatestValue_17 (by decide) ?_
      exact W.iret (v := (999 : Int32)) hx hb hr (fun t ht hW => ⟨⟨(999 : Int32), (), rfl, hR, trivial⟩, hS.F ht⟩) hS.2.2 dX6_greatestValue_20
    · rw [if_pos c_2] at hR
      refine lv_bipush (v := (10 : Int32)) hx hb dX6_greatestValue_12 (by decide) ?_
      refine lv_goto (tgt := 20) hx hb dX6_greatestValue_14 (by decide) ?_
      exact W.iret (v := (10 : Int32)) hx hb hr (fun t ht hW => ⟨⟨(10 : Int32), (), rfl, hR, trivial⟩, hS.F ht⟩) hS.2.2 dX6_greatestValue_20
  · rw [if_pos c_1] at hR
    refine lv_bipush (v := (9 : Int32)) hx hb dX6_greatestValue_4 (by decide) ?_
    exact W.iret (v := (9 : Int32)) hx hb hr (fun t ht hW => ⟨⟨(9 : Int32), (), rfl, hR, trivial⟩, hS.F ht⟩) hS.2.2 dX6_greatestValue_6
abbrev rm_X6_at : Room := { frames := 0, cells := 0, slots := 0, locals := 0 }
abbrev q_X6_at (dC : Nat → ClassId) (dI : Nat → Nat → Nat) (cI cZ cS : ClassId) (q : Nat) (n : Nat) (hn : n < 2 ^ 31)  (res : Int32) (A : Nat → Prop) : Array Value → State → Outcome → State → Prop := va_Qi (fun (r : Int32) (u : Unit) => r = res) (fun _ _ => True) A
set_option maxHeartbeats 4000000 in
set_option maxRecDepth 100000 in
theorem met_X6_at (l : Launch) (dC : Nat → ClassId) (dI : Nat → Nat → Nat) (cI cZ cS : ClassId) (q : Nat) (n : Nat) (hn : n < 2 ^ 31) (f : (Nat → Int32)) (sz : Nat) (p2 : Int32) : Met l yX6_at wsX6_at rm_X6_at (va_Pc [.ref q, .int p2] (pW (dC, dI) (tyS cI cZ cS) ([(q, .inl (cI, n, .inl f))]) sz)) (q_X6_at dC dI cI cZ cS q n hn (f6_at n f p2) (a0 sz)) 0 0 (a0 sz) := by
  refine Met.ofW (cc := cX6_at) (maxL := 2) (ret := (some .int)) (by decide) rfl ?_
  intro p e s m args below meth c s₁ B hml hv
  obtain ⟨rfl, hsz, hP, hK, hD0, hN⟩ := hv
  have hx := B.exec
  have hb := B.bytes
  have hr := B.returns
  have hts := atoms_spec (ws := wsX6_at) B.pre
  have hown : s.vm.findClass RX6 = some m.cls := findClass_of_methodNamed B.named
  have hlocks := B.notSynchronized
  subst hsz
  have hD := hD0
  have hA : ∀ q : Nat, s.heap.size ≤ q → a0 s.heap.size q := fun q h => Or.inr h
  have hS : va_S (a0 s.heap.size) s.heap s.heap [] := va_S.rf
  have hP : va_P (dC, dI) vwCl ([(q, .inl (cI, n, .inl f))]) s.heap := hP
  generalize hR : f6_at n f p2 = res
  rw [f6_at] at hR
  have hl := lv_entry ([.ref q, .int p2]) (n := 2) (Nat.le_of_ble_eq_true rfl)
  rw [lg_entry_eq]
  generalize (lg_sl ([.ref q, .int p2]) ++ List.replicate (2 - (lg_sl ([.ref q, .int p2])).length) Slot.unset).toArray = ls at hl ⊢
  have hl : lv_has ls 2 [(0, .ref q), (1, .int p2)] := hl
  refine lv_aload_n hx hb dX6_at_0 rfl (lv_at hl 0 rfl) ?_
  refine lv_ifnull hx hb dX6_at_1 ?_
  refine lv_iload_n hx hb dX6_at_4 rfl (lv_at hl 1 rfl) ?_
  refine lv_if_lt (tgt := 20) hx hb dX6_at_5 (by decide) (fun c_1 => ?_) (fun c_1 => ?_)
  · rw [if_pos c_1] at hR
    refine lv_iconst (v := (-1 : Int32)) hx hb dX6_at_20 (by decide) ?_
    exact W.iret (v := (-1 : Int32)) hx hb hr (fun t ht hW => ⟨⟨(-1 : Int32), (), rfl, hR, trivial⟩, hS.F ht⟩) hS.2.2 dX6_at_21
  · rw [if_neg c_1] at hR
    refine lv_iload_n hx hb dX6_at_8 rfl (lv_at hl 1 rfl) ?_
    refine lv_aload_n hx hb dX6_at_9 rfl (lv_at hl 0 rfl) ?_
    refine va_alen (v := nI n) hx hb hK hP 0 0 rfl rfl rfl dX6_at_10 ?_
    refine lv_icmp_ge (tgt := 20) hx hb dX6_at_11 (by decide) (fun c_2 => ?_) (fun c_2 => ?_)
    · rw [if_pos c_2] at hR
      refine lv_iconst (v := (-1 : Int32)) hx hb dX6_at_20 (by decide) ?_
      exact W.iret (v := (-1 : Int32)) hx hb hr (fun t ht hW => ⟨⟨(-1 : Int32), (), rfl, hR, trivial⟩, hS.F ht⟩) hS.2.2 dX6_at_21
    · rw [if_neg c_2] at hR
      refine lv_aload_n hx hb dX6_at_14 rfl (lv_at hl 0 rfl) ?_
      refine lv_iload_n hx hb dX6_at_15 rfl (lv_at hl 1 rfl) ?_
      refine va_iald (f := f) hx hb hK hP 0 0 rfl rfl (vpin_g (by assumption) (by assumption) hn) dX6_at_16 ?_
      refine lv_goto (tgt := 21) hx hb dX6_at_17 (by decide) ?_
      exact W.iret (v := (f (ix p2))) hx hb hr (fun t ht hW => ⟨⟨(f (ix p2)), (), rfl, hR, trivial⟩, hS.F ht⟩) hS.2.2 dX6_at_21
abbrev rm_X6_put : Room := { frames := 0, cells := 0, slots := 0, locals := 0 }
abbrev q_X6_put (dC : Nat → ClassId) (dI : Nat → Nat → Nat) (cI cZ cS : ClassId) (q : Nat) (n : Nat) (hn : n < 2 ^ 31)  (res : (Nat → Int32)) (A : Nat → Prop) : Array Value → State → Outcome → State → Prop := va_Qv (fun (u : (Nat → Int32)) => u = res) (fun u t => va_P (dC, dI) vwCl ([(q, .inl (cI, n, .inl u))]) t.heap) A
set_option maxHeartbeats 4000000 in
set_option maxRecDepth 100000 in
theorem met_X6_put (l : Launch) (dC : Nat → ClassId) (dI : Nat → Nat → Nat) (cI cZ cS : ClassId) (q : Nat) (n : Nat) (hn : n < 2 ^ 31) (f : (Nat → Int32)) (sz : Nat) (p2 : Int32) (p3 : Int32) : Met l yX6_put wsX6_put rm_X6_put (va_Pc [.ref q, .int p2, .int p3] (pW (dC, dI) (tyS cI cZ cS) ([(q, .inl (cI, n, .inl f))]) sz)) (q_X6_put dC dI cI cZ cS q n hn (f6_put n f p2 p3) (va_A ([(q, .inl (cI, n, .inl f))]) sz)) 0 0 (va_A ([(q, .inl (cI, n, .inl f))]) sz) := by
  refine Met.ofW (cc := cX6_put) (maxL := 3) (ret := none) (by decide) rfl ?_
  intro p e s m args below meth c s₁ B hml hv
  obtain ⟨rfl, hsz, hP, hK, hD0, hN⟩ := hv
  have hx := B.exec
  have hb := B.bytes
  have hr := B.returns
  have hts := atoms_spec (ws := wsX6_put) B.pre
  have hown : s.vm.findClass RX6 = some m.cls := findClass_of_methodNamed B.named
  have hlocks := B.notSynchronized
  subst hsz
  have hD := hD0.self (sz := s.heap.size)
  generalize hAe : va_A ([(q, .inl (cI, n, .inl f))]) s.heap.size = A at hD ⊢
  have hA : ∀ q : Nat, s.heap.size ≤ q → A q := fun q h => by rw [← hAe]; exact Or.inr h
  have hS : va_S A s.heap s.heap [] := va_S.rf
  have hP : va_P (dC, dI) vwCl ([(q, .inl (cI, n, .inl f))]) s.heap := hP
  generalize hR : f6_put n f p2 p3 = res
  rw [f6_put] at hR
  have hl := lv_entry ([.ref q, .int p2, .int p3]) (n := 3) (Nat.le_of_ble_eq_true rfl)
  rw [lg_entry_eq]
  generalize (lg_sl ([.ref q, .int p2, .int p3]) ++ List.replicate (3 - (lg_sl ([.ref q, .int p2, .int p3])).length) Slot.unset).toArray = ls at hl ⊢
  have hl : lv_has ls 3 [(0, .ref q), (1, .int p2), (2, .int p3)] := hl
  refine lv_aload_n hx hb dX6_put_0 rfl (lv_at hl 0 rfl) ?_
  refine lv_ifnull hx hb dX6_put_1 ?_
  refine lv_iload_n hx hb dX6_put_4 rfl (lv_at hl 1 rfl) ?_
  refine lv_if_lt (tgt := 18) hx hb dX6_put_5 (by decide) (fun c_1 => ?_) (fun c_1 => ?_)
  · rw [if_pos c_1] at hR
    exact W.vret hx hb hr (fun t ht hW => ⟨⟨f, rfl, hR, P_at ht hP⟩, hS.F ht⟩) hS.2.2 dX6_put_18
  · rw [if_neg c_1] at hR
    refine lv_iload_n hx hb dX6_put_8 rfl (lv_at hl 1 rfl) ?_
    refine lv_aload_n hx hb dX6_put_9 rfl (lv_at hl 0 rfl) ?_
    refine va_alen (v := nI n) hx hb hK hP 0 0 rfl rfl rfl dX6_put_10 ?_
    refine lv_icmp_ge (tgt := 18) hx hb dX6_put_11 (by decide) (fun c_2 => ?_) (fun c_2 => ?_)
    · rw [if_pos c_2] at hR
      exact W.vret hx hb hr (fun t ht hW => ⟨⟨f, rfl, hR, P_at ht hP⟩, hS.F ht⟩) hS.2.2 dX6_put_18
    · rw [if_neg c_2] at hR
      refine lv_aload_n hx hb dX6_put_14 rfl (lv_at hl 0 rfl) ?_
      refine lv_iload_n hx hb dX6_put_15 rfl (lv_at hl 1 rfl) ?_
      refine lv_iload_n hx hb dX6_put_16 rfl (lv_at hl 2 rfl) ?_
      refine va_iast (f := f) hx hb hK hP hD hS 0 0 rfl rfl (vpin_g (by assumption) (by assumption) hn) dX6_put_17 (fun H1 locs hP hD hS => ?_)
      have hP : va_P (dC, dI) vwCl ([(q, .inl (cI, n, .inl (upd f (ix p2) p3)))]) H1 := hP
      have hD : va_D A ([(q, .inl (cI, n, .inl (upd f (ix p2) p3)))]) := hD
      obtain ⟨fb3, hfb3⟩ : ∃ z : (Nat → Int32), z = (upd f (ix p2) p3) := ⟨_, rfl⟩
      rw [← hfb3] at hP hD
      have hR := bd_n hfb3 hR
      exact W.vret hx hb hr (fun t ht hW => ⟨⟨fb3, rfl, hR, P_at ht hP⟩, hS.F ht⟩) hS.2.2 dX6_put_18
