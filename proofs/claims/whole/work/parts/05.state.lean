abbrev rm_X5_hasDish : Room := { frames := 0, cells := 0, slots := 0, locals := 0 }
abbrev q_X5_hasDish (dC : Nat → ClassId) (dI : Nat → Nat → Nat) (cI cZ cS : ClassId) (aS : Nat → Nat)  (res : Int32) (A : Nat → Prop) : Array Value → State → Outcome → State → Prop := va_Qi (fun (r : Int32) (u : Unit) => r = res ∧ narrow .boolean (.int r) = .int r) (fun _ _ => True) A
set_option maxHeartbeats 4000000 in
set_option maxRecDepth 100000 in
theorem met_X5_hasDish (l : Launch) (dC : Nat → ClassId) (dI : Nat → Nat → Nat) (cI cZ cS : ClassId) (aS : Nat → Nat) (S : Pic) (sz : Nat) (p1 : Int32) : Met l yX5_hasDish wsX5_hasDish rm_X5_hasDish (va_Pc [.ref (aS 0), .int p1] (pW (dC, dI) (tyS cI cZ cS) (wSt cI aS S) sz)) (q_X5_hasDish dC dI cI cZ cS aS (f5_hasDish S p1) (a0 sz)) 0 0 (a0 sz) := by
  refine Met.ofW (cc := cX5_hasDish) (maxL := 2) (ret := (some .boolean)) (by decide) rfl ?_
  intro p e s m args below meth c s₁ B hml hv
  obtain ⟨rfl, hsz, hP, hK, hD0, hN⟩ := hv
  have hx := B.exec
  have hb := B.bytes
  have hr := B.returns
  have hts := atoms_spec (ws := wsX5_hasDish) B.pre
  have hown : s.vm.findClass RX5 = some m.cls := findClass_of_methodNamed B.named
  have hlocks := B.notSynchronized
  subst hsz
  have hD := hD0
  have hA : ∀ q : Nat, s.heap.size ≤ q → a0 s.heap.size q := fun q h => Or.inr h
  have hS : va_S (a0 s.heap.size) s.heap s.heap [] := va_S.rf
  have hP : va_P (dC, dI) vwCl (wSt cI aS S) s.heap := hP
  generalize hR : f5_hasDish S p1 = res
  rw [f5_hasDish] at hR
  have hin5 : ∀ w ∈ wsX50, w ∈ wsX5_hasDish := by decide +kernel
  have hl := lv_entry ([.ref (aS 0), .int p1]) (n := 2) (Nat.le_of_ble_eq_true rfl)
  rw [lg_entry_eq]
  generalize (lg_sl ([.ref (aS 0), .int p1]) ++ List.replicate (2 - (lg_sl ([.ref (aS 0), .int p1])).length) Slot.unset).toArray = ls at hl ⊢
  have hl : lv_has ls 2 [(0, .ref (aS 0)), (1, .int p1)] := hl
  refine lv_iload_n hx hb dX5_hasDish_0 rfl (lv_at hl 1 rfl) ?_
  refine lv_if_lt (tgt := 16) hx hb dX5_hasDish_1 (by decide) (fun c_1 => ?_) (fun c_1 => ?_)
  · rw [if_pos c_1] at hR
    refine lv_iconst (v := (0 : Int32)) hx hb dX5_hasDish_16 (by decide) ?_
    exact W.zret (v := (0 : Int32)) (ty := .boolean) hx hb hr rfl (fun t ht hW => ⟨⟨(0 : Int32), (), rfl, ⟨hR, rfl⟩, trivial⟩, hS.F ht⟩) hS.2.2 dX5_hasDish_17
  · rw [if_neg c_1] at hR
    refine lv_iload_n hx hb dX5_hasDish_4 rfl (lv_at hl 1 rfl) ?_
    refine lv_aload_n hx hb dX5_hasDish_5 rfl (lv_at hl 0 rfl) ?_
    refine va_get (D := (dC, dI)) (ci := 5) (v := .int ((S 0) 0)) (C := RX5) (T := TX5) (N := 12) hx hb hts hin5 hown hK hP 0 rfl rfl 0 (by decide) (hw_ hts 1 rfl) (fun _ h9 => h9) rfl dX5_hasDish_6 ?_
    refine lv_icmp_ge (tgt := 16) hx hb dX5_hasDish_9 (by decide) (fun c_2 => ?_) (fun c_2 => ?_)
    · rw [if_pos c_2] at hR
      refine lv_iconst (v := (0 : Int32)) hx hb dX5_hasDish_16 (by decide) ?_
      exact W.zret (v := (0 : Int32)) (ty := .boolean) hx hb hr rfl (fun t ht hW => ⟨⟨(0 : Int32), (), rfl, ⟨hR, rfl⟩, trivial⟩, hS.F ht⟩) hS.2.2 dX5_hasDish_17
    · rw [if_neg c_2] at hR
      refine lv_iconst (v := (1 : Int32)) hx hb dX5_hasDish_12 (by decide) ?_
      refine lv_goto (tgt := 17) hx hb dX5_hasDish_13 (by decide) ?_
      exact W.zret (v := (1 : Int32)) (ty := .boolean) hx hb hr rfl (fun t ht hW => ⟨⟨(1 : Int32), (), rfl, ⟨hR, rfl⟩, trivial⟩, hS.F ht⟩) hS.2.2 dX5_hasDish_17
abbrev rm_X5_hasGuest : Room := { frames := 0, cells := 0, slots := 0, locals := 0 }
abbrev q_X5_hasGuest (dC : Nat → ClassId) (dI : Nat → Nat → Nat) (cI cZ cS : ClassId) (aS : Nat → Nat)  (res : Int32) (A : Nat → Prop) : Array Value → State → Outcome → State → Prop := va_Qi (fun (r : Int32) (u : Unit) => r = res ∧ narrow .boolean (.int r) = .int r) (fun _ _ => True) A
set_option maxHeartbeats 4000000 in
set_option maxRecDepth 100000 in
theorem met_X5_hasGuest (l : Launch) (dC : Nat → ClassId) (dI : Nat → Nat → Nat) (cI cZ cS : ClassId) (aS : Nat → Nat) (S : Pic) (sz : Nat) (p1 : Int32) : Met l yX5_hasGuest wsX5_hasGuest rm_X5_hasGuest (va_Pc [.ref (aS 0), .int p1] (pW (dC, dI) (tyS cI cZ cS) (wSt cI aS S) sz)) (q_X5_hasGuest dC dI cI cZ cS aS (f5_hasGuest S p1) (a0 sz)) 0 0 (a0 sz) := by
  refine Met.ofW (cc := cX5_hasGuest) (maxL := 2) (ret := (some .boolean)) (by decide) rfl ?_
  intro p e s m args below meth c s₁ B hml hv
  obtain ⟨rfl, hsz, hP, hK, hD0, hN⟩ := hv
  have hx := B.exec
  have hb := B.bytes
  have hr := B.returns
  have hts := atoms_spec (ws := wsX5_hasGuest) B.pre
  have hown : s.vm.findClass RX5 = some m.cls := findClass_of_methodNamed B.named
  have hlocks := B.notSynchronized
  subst hsz
  have hD := hD0
  have hA : ∀ q : Nat, s.heap.size ≤ q → a0 s.heap.size q := fun q h => Or.inr h
  have hS : va_S (a0 s.heap.size) s.heap s.heap [] := va_S.rf
  have hP : va_P (dC, dI) vwCl (wSt cI aS S) s.heap := hP
  generalize hR : f5_hasGuest S p1 = res
  rw [f5_hasGuest] at hR
  have hin5 : ∀ w ∈ wsX50, w ∈ wsX5_hasGuest := by decide +kernel
  have hl := lv_entry ([.ref (aS 0), .int p1]) (n := 2) (Nat.le_of_ble_eq_true rfl)
  rw [lg_entry_eq]
  generalize (lg_sl ([.ref (aS 0), .int p1]) ++ List.replicate (2 - (lg_sl ([.ref (aS 0), .int p1])).length) Slot.unset).toArray = ls at hl ⊢
  have hl : lv_has ls 2 [(0, .ref (aS 0)), (1, .int p1)] := hl
  refine lv_iload_n hx hb dX5_hasGuest_0 rfl (lv_at hl 1 rfl) ?_
  refine lv_if_lt (tgt := 16) hx hb dX5_hasGuest_1 (by decide) (fun c_1 => ?_) (fun c_1 => ?_)
  · rw [if_pos c_1] at hR
    refine lv_iconst (v := (0 : Int32)) hx hb dX5_hasGuest_16 (by decide) ?_
    exact W.zret (v := (0 : Int32)) (ty := .boolean) hx hb hr rfl (fun t ht hW => ⟨⟨(0 : Int32), (), rfl, ⟨hR, rfl⟩, trivial⟩, hS.F ht⟩) hS.2.2 dX5_hasGuest_17
  · rw [if_neg c_1] at hR
    refine lv_iload_n hx hb dX5_hasGuest_4 rfl (lv_at hl 1 rfl) ?_
    refine lv_aload_n hx hb dX5_hasGuest_5 rfl (lv_at hl 0 rfl) ?_
    refine va_get (D := (dC, dI)) (ci := 5) (v := .int ((S 7) 0)) (C := RX5) (T := TX5) (N := 12) hx hb hts hin5 hown hK hP 0 rfl rfl 7 (by decide) (hw_ hts 1 rfl) (fun _ h9 => h9) rfl dX5_hasGuest_6 ?_
    refine lv_icmp_ge (tgt := 16) hx hb dX5_hasGuest_9 (by decide) (fun c_2 => ?_) (fun c_2 => ?_)
    · rw [if_pos c_2] at hR
      refine lv_iconst (v := (0 : Int32)) hx hb dX5_hasGuest_16 (by decide) ?_
      exact W.zret (v := (0 : Int32)) (ty := .boolean) hx hb hr rfl (fun t ht hW => ⟨⟨(0 : Int32), (), rfl, ⟨hR, rfl⟩, trivial⟩, hS.F ht⟩) hS.2.2 dX5_hasGuest_17
    · rw [if_neg c_2] at hR
      refine lv_iconst (v := (1 : Int32)) hx hb dX5_hasGuest_12 (by decide) ?_
      refine lv_goto (tgt := 17) hx hb dX5_hasGuest_13 (by decide) ?_
      exact W.zret (v := (1 : Int32)) (ty := .boolean) hx hb hr rfl (fun t ht hW => ⟨⟨(1 : Int32), (), rfl, ⟨hR, rfl⟩, trivial⟩, hS.F ht⟩) hS.2.2 dX5_hasGuest_17
abbrev rm_X5_isLeftover : Room := { frames := 1, cells := 0, slots := 0, locals := 21 }
abbrev q_X5_isLeftover (dC : Nat → ClassId) (dI : Nat → Nat → Nat) (cI cZ cS : ClassId) (aS : Nat → Nat)  (res : Int32) (A : Nat → Prop) : Array Value → State → Outcome → State → Prop := va_Qi (fun (r : Int32) (u : Unit) => r = res ∧ narrow .boolean (.int r) = .int r) (fun _ _ => True) A
set_option maxHeartbeats 4000000 in
set_option maxRecDepth 100000 in
theorem met_X5_isLeftover (l : Launch) (dC : Nat → ClassId) (dI : Nat → Nat → Nat) (cI cZ cS : ClassId) (aS : Nat → Nat) (S : Pic) (sz : Nat) (p1 : Int32) : Met l yX5_isLeftover wsX5_isLeftover rm_X5_isLeftover (va_Pc [.ref (aS 0), .int p1] (pW (dC, dI) (tyS cI cZ cS) (wSt cI aS S) sz)) (q_X5_isLeftover dC dI cI cZ cS aS (f5_isLeftover S p1) (a0 sz)) 0 0 (a0 sz) := by
  refine Met.ofW (cc := cX5_isLeftover) (maxL := 3) (ret := (some .boolean)) (by decide) rfl ?_
  intro p e s m args below meth c s₁ B hml hv
  obtain ⟨rfl, hsz, hP, hK, hD0, hN⟩ := hv
  have hx := B.exec
  have hb := B.bytes
  have hr := B.returns
  have hts := atoms_spec (ws := wsX5_isLeftover) B.pre
  have hown : s.vm.findClass RX5 = some m.cls := findClass_of_methodNamed B.named
  have hlocks := B.notSynchronized
  subst hsz
  have hD := hD0
  have hA : ∀ q : Nat, s.heap.size ≤ q → a0 s.heap.size q := fun q h => Or.inr h
  have hS : va_S (a0 s.heap.size) s.heap s.heap [] := va_S.rf
  have hP : va_P (dC, dI) vwCl (wSt cI aS S) s.heap := hP
  generalize hR : f5_isLeftover S p1 = res
  rw [f5_isLeftover] at hR
  have hin5 : ∀ w ∈ wsX50, w ∈ wsX5_isLeftover := by decide +kernel
  have hl := lv_entry ([.ref (aS 0), .int p1]) (n := 3) (Nat.le_of_ble_eq_true rfl)
  rw [lg_entry_eq]
  generalize (lg_sl ([.ref (aS 0), .int p1]) ++ List.replicate (3 - (lg_sl ([.ref (aS 0), .int p1])).length) Slot.unset).toArray = ls at hl ⊢
  have hl : lv_has ls 3 [(0, .ref (aS 0)), (1, .int p1)] := hl
  refine lv_iconst (v := (0 : Int32)) hx hb dX5_isLeftover_0 (by decide) ?_
  refine lv_istore_n (lv' := [(2, .int (0 : Int32)), (0, .ref (aS 0)), (1, .int p1)]) hx hb dX5_isLeftover_1 rfl hl (by decide) rfl (fun ls hl => ?_)
  have LOOP2 : ∀ (k : Int32), (∀  (H1 : Heap) (locs : List Loc), k = res → va_P (dC, dI) vwCl (wSt cI aS S) H1 → va_D (fun _ => True) (wSt cI aS S) → va_S (a0 s.heap.size) s.heap H1 locs → ∀ (ls : Array Slot), lv_has ls 3 [] → W p l e (headSpec wsX5_isLeftover rm_X5_isLeftover).room s m ([.ref (aS 0), .int p1] : List Value).toArray below meth c H1 locs 0 0 (MQ below (q_X5_isLeftover dC dI cI cZ cS aS res (a0 s.heap.size)) ([.ref (aS 0), .int p1] : List Value).toArray s 0 0 (a0 s.heap.size)) (F0 m 30 ls [])) → ∀ (nf : Nat) (x2_2 : Int32) (H1 : Heap) (locs : List Loc), (((S 0) 0)).toInt - (x2_2).toInt ≤ (nf : Int) → f5_isLeftover_L2 S p1 nf x2_2 k = res → va_P (dC, dI) vwCl (wSt cI aS S) H1 → va_D (fun _ => True) (wSt cI aS S) → va_S (a0 s.heap.size) s.heap H1 locs → ∀ (ls : Array Slot), lv_has ls 3 [(2, .int x2_2), (0, .ref (aS 0)), (1, .int p1)] → W p l e (headSpec wsX5_isLeftover rm_X5_isLeftover).room s m ([.ref (aS 0), .int p1] : List Value).toArray below meth c H1 locs 0 0 (MQ below (q_X5_isLeftover dC dI cI cZ cS aS res (a0 s.heap.size)) ([.ref (aS 0), .int p1] : List Value).toArray s 0 0 (a0 s.heap.size)) (F0 m 2 ls []) := by
    intro k hk nf
    induction nf with
    | zero =>
      intro x2_2 H1 locs hfu hR hP hD hS ls hl
      rw [f5_isLeftover_L2] at hR
      refine lv_iload_n hx hb dX5_isLeftover_2 rfl (lv_at hl 0 rfl) ?_
      refine lv_aload_n hx hb dX5_isLeftover_3 rfl (lv_at hl 1 rfl) ?_
      refine va_get (D := (dC, dI)) (ci := 5) (v := .int ((S 0) 0)) (C := RX5) (T := TX5) (N := 12) hx hb hts hin5 hown hK hP 0 rfl rfl 0 (by decide) (hw_ hts 1 rfl) (fun _ h9 => h9) rfl dX5_isLeftover_4 ?_
      refine lv_icmp_ge (tgt := 30) hx hb dX5_isLeftover_7 (by decide) (fun c_1 => ?_) (fun c_1 => ?_)
      · skip
        exact hk  _ _  hR hP hD hS ls (lv_sub hl [] rfl)
      · exact (fuel0 hfu c_1).elim
    | succ nf ih =>
      intro x2_2 H1 locs hfu hR hP hD hS ls hl
      rw [f5_isLeftover_L2] at hR
      refine lv_iload_n hx hb dX5_isLeftover_2 rfl (lv_at hl 0 rfl) ?_
      refine lv_aload_n hx hb dX5_isLeftover_3 rfl (lv_at hl 1 rfl) ?_
      refine va_get (D := (dC, dI)) (ci := 5) (v := .int ((S 0) 0)) (C := RX5) (T := TX5) (N := 12) hx hb hts hin5 hown hK hP 0 rfl rfl 0 (by decide) (hw_ hts 1 rfl) (fun _ h9 => h9) rfl dX5_isLeftover_4 ?_
      refine lv_icmp_ge (tgt := 30) hx hb dX5_isLeftover_7 (by decide) (fun c_2 => ?_) (fun c_2 => ?_)
      · rw [if_pos c_2] at hR
        exact hk  _ _  hR hP hD hS ls (lv_sub hl [] rfl)
      · rw [if_neg c_2] at hR
        have hfu := fuelS hfu c_2
        refine lv_aload_n hx hb dX5_isLeftover_10 rfl (lv_at hl 1 rfl) ?_
        refine va_get (D := (dC, dI)) (ci := 5) (v := .ref (aS 5)) (C := RX5) (T := TX5) (N := 12) hx hb hts hin5 hown hK hP 0 rfl rfl 5 (by decide) (hw_ hts 2 rfl) (fun _ h9 => h9) rfl dX5_isLeftover_11 ?_
        refine lv_iload_n hx hb dX5_isLeftover_14 rfl (lv_at hl 0 rfl) ?_
        refine va_calli (va_runSN (As := [.ref (aS 5), .int x2_2]) (rest := []) ⟨hx, hb, hml, hown, hts⟩ (met_X6_at l dC dI cI cZ cS (aS 5) 12 (by decide) (S 5) H1.size x2_2) ⟨va_cnB 2 hts ggX5_isLeftover_X6_at rfl rfl rfl (hN_1 hN) (hw_ hts 4 rfl) (by decide +kernel) ⟨Nat.le_of_ble_eq_true rfl, Nat.le_of_ble_eq_true rfl⟩, (hw_ hts 3 rfl), trivial⟩ (pS (wc := [((aS 5), .inl (cI, 12, .inl (S 5)))]) hK hP hD hN [5] rfl (by decide)) rfl rfl hl.1 rfl (lv_room (Nat.le_of_ble_eq_true rfl)) dX5_isLeftover_15 ⟨Nat.zero_le _, Nat.zero_le _⟩) hS (fun q _ h => a0_in hS hA q h) (a0_in hS hA) (fun r3 u t H2 locs ht hvm hw hB hz1 hk1 hS => ?_)
        subst hw
        have hP := rdk hP hk1
        refine lv_iload_n hx hb dX5_isLeftover_18 rfl (lv_at hl 2 rfl) ?_
        refine lv_icmp_ne (tgt := 24) hx hb dX5_isLeftover_19 (by decide) (fun c_4 => ?_) (fun c_4 => ?_)
        · rw [if_neg c_4] at hR
          refine lv_iinc (v := (x2_2 + 1)) (lv' := [(2, .int (x2_2 + 1)), (0, .ref (aS 0)), (1, .int p1)]) hx hb dX5_isLeftover_24 hl (k := 0) rfl rfl (by decide) rfl (fun ls hl => ?_)
          refine lv_goto (tgt := 2) hx hb dX5_isLeftover_27 (by decide) ?_
          exact ih (x2_2 + 1) _ _ hfu hR hP hD hS ls (lv_sub hl [0, 1, 2] rfl)
        · rw [if_pos c_4] at hR
          refine lv_iconst (v := (1 : Int32)) hx hb dX5_isLeftover_22 (by decide) ?_
          exact W.zret (v := (1 : Int32)) (ty := .boolean) hx hb hr rfl (fun t ht hW => ⟨⟨(1 : Int32), (), rfl, ⟨hR, rfl⟩, trivial⟩, hS.F ht⟩) hS.2.2 dX5_isLeftover_23
  refine LOOP2 (0 : Int32) (fun H1 locs hR hP hD hS ls hl => ?_) (fuelN (0 : Int32) ((S 0) 0)) (0 : Int32) _ _ (fuelE _ _) hR hP hD hS ls (lv_sub hl [0, 1, 2] rfl)
  try dsimp only at hR
  refine lv_iconst (v := (0 : Int32)) hx hb dX5_isLeftover_30 (by decide) ?_
  exact W.zret (v := (0 : Int32)) (ty := .boolean) hx hb hr rfl (fun t ht hW => ⟨⟨(0 : Int32), (), rfl, ⟨hR, rfl⟩, trivial⟩, hS.F ht⟩) hS.2.2 dX5_isLeftover_31
abbrev rm_X5_timesPlanned : Room := { frames := 1, cells := 0, slots := 0, locals := 21 }
abbrev q_X5_timesPlanned (dC : Nat → ClassId) (dI : Nat → Nat → Nat) (cI cZ cS : ClassId) (aS : Nat → Nat)  (res : Int32) (A : Nat → Prop) : Array Value → State → Outcome → State → Prop := va_Qi (fun (r : Int32) (u : Unit) => r = res) (fun _ _ => True) A
set_option maxHeartbeats 4000000 in
set_option maxRecDepth 100000 in
theorem met_X5_timesPlanned (l : Launch) (dC : Nat → ClassId) (dI : Nat → Nat → Nat) (cI cZ cS : ClassId) (aS : Nat → Nat) (S : Pic) (sz : Nat) (p1 : Int32) : Met l yX5_timesPlanned wsX5_timesPlanned rm_X5_timesPlanned (va_Pc [.ref (aS 0), .int p1] (pW (dC, dI) (tyS cI cZ cS) (wSt cI aS S) sz)) (q_X5_timesPlanned dC dI cI cZ cS aS (f5_timesPlanned S p1) (a0 sz)) 0 0 (a0 sz) := by
  refine Met.ofW (cc := cX5_timesPlanned) (maxL := 4) (ret := (some .int)) (by decide) rfl ?_
  intro p e s m args below meth c s₁ B hml hv
  obtain ⟨rfl, hsz, hP, hK, hD0, hN⟩ := hv
  have hx := B.exec
  have hb := B.bytes
  have hr := B.returns
  have hts := atoms_spec (ws := wsX5_timesPlanned) B.pre
  have hown : s.vm.findClass RX5 = some m.cls := findClass_of_methodNamed B.named
  have hlocks := B.notSynchronized
  subst hsz
  have hD := hD0
  have hA : ∀ q : Nat, s.heap.size ≤ q → a0 s.heap.size q := fun q h => Or.inr h
  have hS : va_S (a0 s.heap.size) s.heap s.heap [] := va_S.rf
  have hP : va_P (dC, dI) vwCl (wSt cI aS S) s.heap := hP
  generalize hR : f5_timesPlanned S p1 = res
  rw [f5_timesPlanned] at hR
  have hin5 : ∀ w ∈ wsX50, w ∈ wsX5_timesPlanned := by decide +kernel
  have hl := lv_entry ([.ref (aS 0), .int p1]) (n := 4) (Nat.le_of_ble_eq_true rfl)
  rw [lg_entry_eq]
  generalize (lg_sl ([.ref (aS 0), .int p1]) ++ List.replicate (4 - (lg_sl ([.ref (aS 0), .int p1])).length) Slot.unset).toArray = ls at hl ⊢
  have hl : lv_has ls 4 [(0, .ref (aS 0)), (1, .int p1)] := hl
  refine lv_iconst (v := (0 : Int32)) hx hb dX5_timesPlanned_0 (by decide) ?_
  refine lv_istore_n (lv' := [(2, .int (0 : Int32)), (0, .ref (aS 0)), (1, .int p1)]) hx hb dX5_timesPlanned_1 rfl hl (by decide) rfl (fun ls hl => ?_)
  refine lv_iconst (v := (0 : Int32)) hx hb dX5_timesPlanned_2 (by decide) ?_
  refine lv_istore_n (lv' := [(3, .int (0 : Int32)), (2, .int (0 : Int32)), (0, .ref (aS 0)), (1, .int p1)]) hx hb dX5_timesPlanned_3 rfl hl (by decide) rfl (fun ls hl => ?_)
  have LOOP4 : ∀ (k : Int32 → Int32), (∀ (x2_4 : Int32) (H1 : Heap) (locs : List Loc), k x2_4 = res → va_P (dC, dI) vwCl (wSt cI aS S) H1 → va_D (fun _ => True) (wSt cI aS S) → va_S (a0 s.heap.size) s.heap H1 locs → ∀ (ls : Array Slot), lv_has ls 4 [(2, .int x2_4)] → W p l e (headSpec wsX5_timesPlanned rm_X5_timesPlanned).room s m ([.ref (aS 0), .int p1] : List Value).toArray below meth c H1 locs 0 0 (MQ below (q_X5_timesPlanned dC dI cI cZ cS aS res (a0 s.heap.size)) ([.ref (aS 0), .int p1] : List Value).toArray s 0 0 (a0 s.heap.size)) (F0 m 31 ls [])) → ∀ (nf : Nat) (x2_4 : Int32) (x3_4 : Int32) (H1 : Heap) (locs : List Loc), ((84 : Int32)).toInt - (x3_4).toInt ≤ (nf : Int) → f5_timesPlanned_L4 S p1 nf x2_4 x3_4 k = res → va_P (dC, dI) vwCl (wSt cI aS S) H1 → va_D (fun _ => True) (wSt cI aS S) → va_S (a0 s.heap.size) s.heap H1 locs → ∀ (ls : Array Slot), lv_has ls 4 [(2, .int x2_4), (3, .int x3_4), (0, .ref (aS 0)), (1, .int p1)] → W p l e (headSpec wsX5_timesPlanned rm_X5_timesPlanned).room s m ([.ref (aS 0), .int p1] : List Value).toArray below meth c H1 locs 0 0 (MQ below (q_X5_timesPlanned dC dI cI cZ cS aS res (a0 s.heap.size)) ([.ref (aS 0), .int p1] : List Value).toArray s 0 0 (a0 s.heap.size)) (F0 m 4 ls []) := by
    intro k hk nf
    induction nf with
    | zero =>
      intro x2_4 x3_4 H1 locs hfu hR hP hD hS ls hl
      rw [f5_timesPlanned_L4] at hR
      refine lv_iload_n hx hb dX5_timesPlanned_4 rfl (lv_at hl 1 rfl) ?_
      refine lv_bipush (v := (84 : Int32)) hx hb dX5_timesPlanned_5 (by decide) ?_
      refine lv_icmp_ge (tgt := 31) hx hb dX5_timesPlanned_7 (by decide) (fun c_1 => ?_) (fun c_1 => ?_)
      · skip
        exact hk x2_4 _ _  hR hP hD hS ls (lv_sub hl [0] rfl)
      · exact (fuel0 hfu c_1).elim
    | succ nf ih =>
      intro x2_4 x3_4 H1 locs hfu hR hP hD hS ls hl
      rw [f5_timesPlanned_L4] at hR
      refine lv_iload_n hx hb dX5_timesPlanned_4 rfl (lv_at hl 1 rfl) ?_
      refine lv_bipush (v := (84 : Int32)) hx hb dX5_timesPlanned_5 (by decide) ?_
      refine lv_icmp_ge (tgt := 31) hx hb dX5_timesPlanned_7 (by decide) (fun c_2 => ?_) (fun c_2 => ?_)
      · rw [if_pos c_2] at hR
        exact hk x2_4 _ _  hR hP hD hS ls (lv_sub hl [0] rfl)
      · rw [if_neg c_2] at hR
        have hfu := fuelS hfu c_2
        refine lv_aload_n hx hb dX5_timesPlanned_10 rfl (lv_at hl 2 rfl) ?_
        refine va_get (D := (dC, dI)) (ci := 5) (v := .ref (aS 11)) (C := RX5) (T := TX5) (N := 12) hx hb hts hin5 hown hK hP 0 rfl rfl 11 (by decide) (hw_ hts 1 rfl) (fun _ h9 => h9) rfl dX5_timesPlanned_11 ?_
        refine lv_iload_n hx hb dX5_timesPlanned_14 rfl (lv_at hl 1 rfl) ?_
        refine va_calli (va_runSN (As := [.ref (aS 11), .int x3_4]) (rest := []) ⟨hx, hb, hml, hown, hts⟩ (met_X6_at l dC dI cI cZ cS (aS 11) 84 (by decide) (S 11) H1.size x3_4) ⟨va_cnB 2 hts ggX5_timesPlanned_X6_at rfl rfl rfl (hN_1 hN) (hw_ hts 3 rfl) (by decide +kernel) ⟨Nat.le_of_ble_eq_true rfl, Nat.le_of_ble_eq_true rfl⟩, (hw_ hts 2 rfl), trivial⟩ (pS (wc := [((aS 11), .inl (cI, 84, .inl (S 11)))]) hK hP hD hN [10] rfl (by decide)) rfl rfl hl.1 rfl (lv_room (Nat.le_of_ble_eq_true rfl)) dX5_timesPlanned_15 ⟨Nat.zero_le _, Nat.zero_le _⟩) hS (fun q _ h => a0_in hS hA q h) (a0_in hS hA) (fun r3 u t H2 locs ht hvm hw hB hz1 hk1 hS => ?_)
        subst hw
        have hP := rdk hP hk1
        refine lv_iload_n hx hb dX5_timesPlanned_18 rfl (lv_at hl 3 rfl) ?_
        refine lv_icmp_ne (tgt := 25) hx hb dX5_timesPlanned_19 (by decide) (fun c_4 => ?_) (fun c_4 => ?_)
        · rw [if_neg c_4] at hR
          refine lv_iinc (v := (x3_4 + 1)) (lv' := [(3, .int (x3_4 + 1)), (2, .int x2_4), (0, .ref (aS 0)), (1, .int p1)]) hx hb dX5_timesPlanned_25 hl (k := 1) rfl rfl (by decide) rfl (fun ls hl => ?_)
          refine lv_goto (tgt := 4) hx hb dX5_timesPlanned_28 (by decide) ?_
          exact ih x2_4 (x3_4 + 1) _ _ hfu hR hP hD hS ls (lv_sub hl [1, 0, 2, 3] rfl)
        · rw [if_pos c_4] at hR
          refine lv_iinc (v := (x2_4 + 1)) (lv' := [(2, .int (x2_4 + 1)), (3, .int x3_4), (0, .ref (aS 0)), (1, .int p1)]) hx hb dX5_timesPlanned_22 hl (k := 0) rfl rfl (by decide) rfl (fun ls hl => ?_)
          refine lv_iinc (v := (x3_4 + 1)) (lv' := [(3, .int (x3_4 + 1)), (2, .int (x2_4 + 1)), (0, .ref (aS 0)), (1, .int p1)]) hx hb dX5_timesPlanned_25 hl (k := 1) rfl rfl (by decide) rfl (fun ls hl => ?_)
          refine lv_goto (tgt := 4) hx hb dX5_timesPlanned_28 (by decide) ?_
          exact ih (x2_4 + 1) (x3_4 + 1) _ _ hfu hR hP hD hS ls (lv_sub hl [1, 0, 2, 3] rfl)
  refine LOOP4 (fun x2_4 => x2_4) (fun x2_4 H1 locs hR hP hD hS ls hl => ?_) 84 (0 : Int32) (0 : Int32) _ _ (by decide) hR hP hD hS ls (lv_sub hl [1, 0, 2, 3] rfl)
  try dsimp only at hR
  refine lv_iload_n hx hb dX5_timesPlanned_31 rfl (lv_at hl 0 rfl) ?_
  exact W.iret (v := x2_4) hx hb hr (fun t ht hW => ⟨⟨x2_4, (), rfl, hR, trivial⟩, hS.F ht⟩) hS.2.2 dX5_timesPlanned_32
abbrev rm_X5_planCount : Room := { frames := 2, cells := 0, slots := 0, locals := 44 }
abbrev q_X5_planCount (dC : Nat → ClassId) (dI : Nat → Nat → Nat) (cI cZ cS : ClassId) (aS : Nat → Nat)  (res : Int32) (A : Nat → Prop) : Array Value → State → Outcome → State → Prop := va_Qi (fun (r : Int32) (u : Unit) => r = res) (fun _ _ => True) A
set_option maxHeartbeats 4000000 in
set_option maxRecDepth 100000 in
theorem met_X5_planCount (l : Launch) (dC : Nat → ClassId) (dI : Nat → Nat → Nat) (cI cZ cS : ClassId) (aS : Nat → Nat) (S : Pic) (sz : Nat)  : Met l yX5_planCount wsX5_planCount rm_X5_planCount (va_Pc [.ref (aS 0)] (pW (dC, dI) (tyS cI cZ cS) (wSt cI aS S) sz)) (q_X5_planCount dC dI cI cZ cS aS (f5_planCount S) (a0 sz)) 0 0 (a0 sz) := by
  refine Met.ofW (cc := cX5_planCount) (maxL := 1) (ret := (some .int)) (by decide) rfl ?_
  intro p e s m args below meth c s₁ B hml hv
  obtain ⟨rfl, hsz, hP, hK, hD0, hN⟩ := hv
  have hx := B.exec
  have hb := B.bytes
  have hr := B.returns
  have hts := atoms_spec (ws := wsX5_planCount) B.pre
  have hown : s.vm.findClass RX5 = some m.cls := findClass_of_methodNamed B.named
  have hlocks := B.notSynchronized
  subst hsz
  have hD := hD0
  have hA : ∀ q : Nat, s.heap.size ≤ q → a0 s.heap.size q := fun q h => Or.inr h
  have hS : va_S (a0 s.heap.size) s.heap s.heap [] := va_S.rf
  have hP : va_P (dC, dI) vwCl (wSt cI aS S) s.heap := hP
  generalize hR : f5_planCount S = res
  rw [f5_planCount] at hR
  have hl := lv_entry ([.ref (aS 0)]) (n := 1) (Nat.le_of_ble_eq_true rfl)
  rw [lg_entry_eq]
  generalize (lg_sl ([.ref (aS 0)]) ++ List.replicate (1 - (lg_sl ([.ref (aS 0)])).length) Slot.unset).toArray = ls at hl ⊢
  have hl : lv_has ls 1 [(0, .ref (aS 0))] := hl
  refine lv_bipush (v := (84 : Int32)) hx hb dX5_planCount_0 (by decide) ?_
  refine lv_aload_n hx hb dX5_planCount_2 rfl (lv_at hl 0 rfl) ?_
  refine lv_iconst (v := (-1 : Int32)) hx hb dX5_planCount_3 (by decide) ?_
  refine va_calli (va_runV (As := [.int (-1 : Int32)]) (rest := [.int (84 : Int32)]) ⟨hx, hb, hml, hown, hts⟩ (met_X5_timesPlanned l dC dI cI cZ cS aS S s.heap.size (-1 : Int32)) (cwV 1 hts gX5_planCount_X5_timesPlanned rfl rfl rfl (by decide +kernel) ⟨Nat.le_of_ble_eq_true rfl, Nat.le_of_ble_eq_true rfl⟩) (pV (wc := wSt cI aS S) (ci := 5) (q0 := 0) hK hP hD hN [0, 1, 2, 3, 4, 5, 6, 7, 8, 9, 10] rfl (by decide) rfl rfl) rfl rfl hl.1 rfl (lv_room (Nat.le_of_ble_eq_true rfl)) dX5_planCount_4 ⟨Nat.zero_le _, Nat.zero_le _⟩) hS (fun q _ h => a0_in hS hA q h) (a0_in hS hA) (fun r1 u t H1 locs ht hvm hw hB hz1 hk1 hS => ?_)
  have hR := bd_n hw hR
  have hP := rdk hP hk1
  refine lv_isub hx hb dX5_planCount_7 ?_
  exact W.iret (v := ((84 : Int32) - r1)) hx hb hr (fun t ht hW => ⟨⟨((84 : Int32) - r1), (), rfl, hR, trivial⟩, hS.F ht⟩) hS.2.2 dX5_planCount_8
abbrev rm_X5_mealCost : Room := { frames := 1, cells := 0, slots := 0, locals := 21 }
abbrev q_X5_mealCost (dC : Nat → ClassId) (dI : Nat → Nat → Nat) (cI cZ cS : ClassId) (aS : Nat → Nat)  (res : Int32) (A : Nat → Prop) : Array Value → State → Outcome → State → Prop := va_Qi (fun (r : Int32) (u : Unit) => r = res) (fun _ _ => True) A
set_option maxHeartbeats 4000000 in
set_option maxRecDepth 100000 in
theorem met_X5_mealCost (l : Launch) (dC : Nat → ClassId) (dI : Nat → Nat → Nat) (cI cZ cS : ClassId) (aS : Nat → Nat) (S : Pic) (sz : Nat) (p1 : Int32) : Met l yX5_mealCost wsX5_mealCost rm_X5_mealCost (va_Pc [.ref (aS 0), .int p1] (pW (dC, dI) (tyS cI cZ cS) (wSt cI aS S) sz)) (q_X5_mealCost dC dI cI cZ cS aS (f5_mealCost S p1) (a0 sz)) 0 0 (a0 sz) := by
  refine Met.ofW (cc := cX5_mealCost) (maxL := 5) (ret := (some .int)) (by decide) rfl ?_
  intro p e s m args below meth c s₁ B hml hv
  obtain ⟨rfl, hsz, hP, hK, hD0, hN⟩ := hv
  have hx := B.exec
  have hb := B.bytes
  have hr := B.returns
  have hts := atoms_spec (ws := wsX5_mealCost) B.pre
  have hown : s.vm.findClass RX5 = some m.cls := findClass_of_methodNamed B.named
  have hlocks := B.notSynchronized
  subst hsz
  have hD := hD0
  have hA : ∀ q : Nat, s.heap.size ≤ q → a0 s.heap.size q := fun q h => Or.inr h
  have hS : va_S (a0 s.heap.size) s.heap s.heap [] := va_S.rf
  have hP : va_P (dC, dI) vwCl (wSt cI aS S) s.heap := hP
  generalize hR : f5_mealCost S p1 = res
  rw [f5_mealCost] at hR
  have hin5 : ∀ w ∈ wsX50, w ∈ wsX5_mealCost := by decide +kernel
  have hl := lv_entry ([.ref (aS 0), .int p1]) (n := 5) (Nat.le_of_ble_eq_true rfl)
  rw [lg_entry_eq]
  generalize (lg_sl ([.ref (aS 0), .int p1]) ++ List.replicate (5 - (lg_sl ([.ref (aS 0), .int p1])).length) Slot.unset).toArray = ls at hl ⊢
  have hl : lv_has ls 5 [(0, .ref (aS 0)), (1, .int p1)] := hl
  refine lv_iconst (v := (0 : Int32)) hx hb dX5_mealCost_0 (by decide) ?_
  refine lv_istore_n (lv' := [(2, .int (0 : Int32)), (0, .ref (aS 0)), (1, .int p1)]) hx hb dX5_mealCost_1 rfl hl (by decide) rfl (fun ls hl => ?_)
  refine lv_iconst (v := (0 : Int32)) hx hb dX5_mealCost_2 (by decide) ?_
  refine lv_istore_n (lv' := [(3, .int (0 : Int32)), (2, .int (0 : Int32)), (0, .ref (aS 0)), (1, .int p1)]) hx hb dX5_mealCost_3 rfl hl (by decide) rfl (fun ls hl => ?_)
  have LOOP4 : ∀ (k : Int32 → Int32), (∀ (x2_4 : Int32) (H1 : Heap) (locs : List Loc), k x2_4 = res → va_P (dC, dI) vwCl (wSt cI aS S) H1 → va_D (fun _ => True) (wSt cI aS S) → va_S (a0 s.heap.size) s.heap H1 locs → ∀ (ls : Array Slot), lv_has ls 5 [(2, .int x2_4)] → W p l e (headSpec wsX5_mealCost rm_X5_mealCost).room s m ([.ref (aS 0), .int p1] : List Value).toArray below meth c H1 locs 0 0 (MQ below (q_X5_mealCost dC dI cI cZ cS aS res (a0 s.heap.size)) ([.ref (aS 0), .int p1] : List Value).toArray s 0 0 (a0 s.heap.size)) (F0 m 47 ls [])) → ∀ (nf : Nat) (x2_4 : Int32) (x3_4 : Int32) (H1 : Heap) (locs : List Loc), ((3 : Int32)).toInt - (x3_4).toInt ≤ (nf : Int) → f5_mealCost_L4 S p1 nf x2_4 x3_4 k = res → va_P (dC, dI) vwCl (wSt cI aS S) H1 → va_D (fun _ => True) (wSt cI aS S) → va_S (a0 s.heap.size) s.heap H1 locs → ∀ (ls : Array Slot), lv_has ls 5 [(2, .int x2_4), (3, .int x3_4), (0, .ref (aS 0)), (1, .int p1)] → W p l e (headSpec wsX5_mealCost rm_X5_mealCost).room s m ([.ref (aS 0), .int p1] : List Value).toArray below meth c H1 locs 0 0 (MQ below (q_X5_mealCost dC dI cI cZ cS aS res (a0 s.heap.size)) ([.ref (aS 0), .int p1] : List Value).toArray s 0 0 (a0 s.heap.size)) (F0 m 4 ls []) := by
    intro k hk nf
    induction nf with
    | zero =>
      intro x2_4 x3_4 H1 locs hfu hR hP hD hS ls hl
      rw [f5_mealCost_L4] at hR
      refine lv_iload_n hx hb dX5_mealCost_4 rfl (lv_at hl 1 rfl) ?_
      refine lv_iconst (v := (3 : Int32)) hx hb dX5_mealCost_5 (by decide) ?_
      refine lv_icmp_ge (tgt := 47) hx hb dX5_mealCost_6 (by decide) (fun c_1 => ?_) (fun c_1 => ?_)
      · skip
        exact hk x2_4 _ _  hR hP hD hS ls (lv_sub hl [0] rfl)
      · exact (fuel0 hfu c_1).elim
    | succ nf ih =>
      intro x2_4 x3_4 H1 locs hfu hR hP hD hS ls hl
      rw [f5_mealCost_L4] at hR
      refine lv_iload_n hx hb dX5_mealCost_4 rfl (lv_at hl 1 rfl) ?_
      refine lv_iconst (v := (3 : Int32)) hx hb dX5_mealCost_5 (by decide) ?_
      refine lv_icmp_ge (tgt := 47) hx hb dX5_mealCost_6 (by decide) (fun c_2 => ?_) (fun c_2 => ?_)
      · rw [if_pos c_2] at hR
        exact hk x2_4 _ _  hR hP hD hS ls (lv_sub hl [0] rfl)
      · rw [if_neg c_2] at hR
        have hfu := fuelS hfu c_2
        refine lv_aload_n hx hb dX5_mealCost_9 rfl (lv_at hl 2 rfl) ?_
        refine va_get (D := (dC, dI)) (ci := 5) (v := .ref (aS 11)) (C := RX5) (T := TX5) (N := 12) hx hb hts hin5 hown hK hP 0 rfl rfl 11 (by decide) (hw_ hts 1 rfl) (fun _ h9 => h9) rfl dX5_mealCost_10 ?_
        refine lv_iload_n hx hb dX5_mealCost_13 rfl (lv_at hl 3 rfl) ?_
        refine lv_iload_n hx hb dX5_mealCost_14 rfl (lv_at hl 1 rfl) ?_
        refine va_calli (va_runSN (As := [.int p1, .int x3_4]) (rest := [.ref (aS 11)]) ⟨hx, hb, hml, hown, hts⟩ (met_X6_cellOf l dC dI cI cZ cS H1.size p1 x3_4) ⟨va_cnB 2 hts ggX5_mealCost_X6_cellOf rfl rfl rfl (hN_10 hN) (hw_ hts 4 rfl) (by decide +kernel) ⟨Nat.le_of_ble_eq_true rfl, Nat.le_of_ble_eq_true rfl⟩, (hw_ hts 3 rfl), trivial⟩ (pS (wc := []) hK hP hD hN [] rfl (by decide)) rfl rfl hl.1 rfl (lv_room (Nat.le_of_ble_eq_true rfl)) dX5_mealCost_15 ⟨Nat.zero_le _, Nat.zero_le _⟩) hS (fun q _ h => a0_in hS hA q h) (a0_in hS hA) (fun r3 u t H2 locs ht hvm hw hB hz1 hk1 hS => ?_)
        subst hw
        have hP := rdk hP hk1
        refine va_calli (va_runSN (As := [.ref (aS 11), .int (f6_cellOf p1 x3_4)]) (rest := []) ⟨hx, hb, hml, hown, hts⟩ (met_X6_at l dC dI cI cZ cS (aS 11) 84 (by decide) (S 11) H2.size (f6_cellOf p1 x3_4)) ⟨va_cnB 2 hts ggX5_mealCost_X6_at rfl rfl rfl (hN_1 hN) (hw_ hts 4 rfl) (by decide +kernel) ⟨Nat.le_of_ble_eq_true rfl, Nat.le_of_ble_eq_true rfl⟩, (hw_ hts 6 rfl), trivial⟩ (pS (wc := [((aS 11), .inl (cI, 84, .inl (S 11)))]) hK hP hD hN [10] rfl (by decide)) rfl rfl hl.1 rfl (lv_room (Nat.le_of_ble_eq_true rfl)) dX5_mealCost_18 ⟨Nat.zero_le _, Nat.zero_le _⟩) hS (fun q _ h => a0_in hS hA q h) (a0_in hS hA) (fun r4 u t H3 locs ht hvm hw hB hz1 hk1 hS => ?_)
        subst hw
        have hP := rdk hP hk1
        refine lv_topi (fun v5 hv5 => ?_)
        have hR := bd_n hv5 hR
        refine lv_istore (lv' := [(4, .int v5), (2, .int x2_4), (3, .int x3_4), (0, .ref (aS 0)), (1, .int p1)]) hx hb dX5_mealCost_21 hl (by decide) rfl (fun ls hl => ?_)
        refine lv_iload hx hb dX5_mealCost_23 (lv_at hl 0 rfl) ?_
        refine lv_iconst (v := (-1 : Int32)) hx hb dX5_mealCost_25 (by decide) ?_
        refine lv_icmp_eq (tgt := 41) hx hb dX5_mealCost_26 (by decide) (fun c_6 => ?_) (fun c_6 => ?_)
        · rw [if_pos c_6] at hR
          refine lv_iinc (v := (x3_4 + 1)) (lv' := [(3, .int (x3_4 + 1)), (4, .int v5), (2, .int x2_4), (0, .ref (aS 0)), (1, .int p1)]) hx hb dX5_mealCost_41 hl (k := 2) rfl rfl (by decide) rfl (fun ls hl => ?_)
          refine lv_goto (tgt := 4) hx hb dX5_mealCost_44 (by decide) ?_
          exact ih x2_4 (x3_4 + 1) _ _ hfu hR hP hD hS ls (lv_sub hl [2, 0, 3, 4] rfl)
        · rw [if_neg c_6] at hR
          refine lv_iload_n hx hb dX5_mealCost_29 rfl (lv_at hl 1 rfl) ?_
          refine lv_aload_n hx hb dX5_mealCost_30 rfl (lv_at hl 3 rfl) ?_
          refine va_get (D := (dC, dI)) (ci := 5) (v := .ref (aS 2)) (C := RX5) (T := TX5) (N := 12) hx hb hts hin5 hown hK hP 0 rfl rfl 2 (by decide) (hw_ hts 2 rfl) (fun _ h9 => h9) rfl dX5_mealCost_31 ?_
          refine lv_iload hx hb dX5_mealCost_34 (lv_at hl 0 rfl) ?_
          refine va_calli (va_runSN (As := [.ref (aS 2), .int v5]) (rest := [.int x2_4]) ⟨hx, hb, hml, hown, hts⟩ (met_X6_at l dC dI cI cZ cS (aS 2) 12 (by decide) (S 2) H3.size v5) ⟨va_cnB 2 hts ggX5_mealCost_X6_at rfl rfl rfl (hN_1 hN) (hw_ hts 4 rfl) (by decide +kernel) ⟨Nat.le_of_ble_eq_true rfl, Nat.le_of_ble_eq_true rfl⟩, (hw_ hts 6 rfl), trivial⟩ (pS (wc := [((aS 2), .inl (cI, 12, .inl (S 2)))]) hK hP hD hN [2] rfl (by decide)) rfl rfl hl.1 rfl (lv_room (Nat.le_of_ble_eq_true rfl)) dX5_mealCost_36 ⟨Nat.zero_le _, Nat.zero_le _⟩) hS (fun q _ h => a0_in hS hA q h) (a0_in hS hA) (fun r7 u t H4 locs ht hvm hw hB hz1 hk1 hS => ?_)
          subst hw
          have hP := rdk hP hk1
          refine lv_iadd hx hb dX5_mealCost_39 ?_
          refine lv_topi (fun v8 hv8 => ?_)
          have hR := bd_n hv8 hR
          refine lv_istore_n (lv' := [(2, .int v8), (4, .int v5), (3, .int x3_4), (0, .ref (aS 0)), (1, .int p1)]) hx hb dX5_mealCost_40 rfl hl (by decide) rfl (fun ls hl => ?_)
          refine lv_iinc (v := (x3_4 + 1)) (lv' := [(3, .int (x3_4 + 1)), (2, .int v8), (4, .int v5), (0, .ref (aS 0)), (1, .int p1)]) hx hb dX5_mealCost_41 hl (k := 2) rfl rfl (by decide) rfl (fun ls hl => ?_)
          refine lv_goto (tgt := 4) hx hb dX5_mealCost_44 (by decide) ?_
          exact ih v8 (x3_4 + 1) _ _ hfu hR hP hD hS ls (lv_sub hl [1, 0, 3, 4] rfl)
  refine LOOP4 (fun x2_4 => x2_4) (fun x2_4 H1 locs hR hP hD hS ls hl => ?_) 3 (0 : Int32) (0 : Int32) _ _ (by decide) hR hP hD hS ls (lv_sub hl [1, 0, 2, 3] rfl)
  try dsimp only at hR
  refine lv_iload_n hx hb dX5_mealCost_47 rfl (lv_at hl 0 rfl) ?_
  exact W.iret (v := x2_4) hx hb hr (fun t ht hW => ⟨⟨x2_4, (), rfl, hR, trivial⟩, hS.F ht⟩) hS.2.2 dX5_mealCost_48
abbrev rm_X5_weekCost : Room := { frames := 2, cells := 0, slots := 0, locals := 45 }
abbrev q_X5_weekCost (dC : Nat → ClassId) (dI : Nat → Nat → Nat) (cI cZ cS : ClassId) (aS : Nat → Nat)  (res : Int32) (A : Nat → Prop) : Array Value → State → Outcome → State → Prop := va_Qi (fun (r : Int32) (u : Unit) => r = res) (fun _ _ => True) A
set_option maxHeartbeats 4000000 in
set_option maxRecDepth 100000 in
theorem met_X5_weekCost (l : Launch) (dC : Nat → ClassId) (dI : Nat → Nat → Nat) (cI cZ cS : ClassId) (aS : Nat → Nat) (S : Pic) (sz : Nat) (p1 : Int32) : Met l yX5_weekCost wsX5_weekCost rm_X5_weekCost (va_Pc [.ref (aS 0), .int p1] (pW (dC, dI) (tyS cI cZ cS) (wSt cI aS S) sz)) (q_X5_weekCost dC dI cI cZ cS aS (f5_weekCost S p1) (a0 sz)) 0 0 (a0 sz) := by
  refine Met.ofW (cc := cX5_weekCost) (maxL := 5) (ret := (some .int)) (by decide) rfl ?_
  intro p e s m args below meth c s₁ B hml hv
  obtain ⟨rfl, hsz, hP, hK, hD0, hN⟩ := hv
  have hx := B.exec
  have hb := B.bytes
  have hr := B.returns
  have hts := atoms_spec (ws := wsX5_weekCost) B.pre
  have hown : s.vm.findClass RX5 = some m.cls := findClass_of_methodNamed B.named
  have hlocks := B.notSynchronized
  subst hsz
  have hD := hD0
  have hA : ∀ q : Nat, s.heap.size ≤ q → a0 s.heap.size q := fun q h => Or.inr h
  have hS : va_S (a0 s.heap.size) s.heap s.heap [] := va_S.rf
  have hP : va_P (dC, dI) vwCl (wSt cI aS S) s.heap := hP
  generalize hR : f5_weekCost S p1 = res
  rw [f5_weekCost] at hR
  have hl := lv_entry ([.ref (aS 0), .int p1]) (n := 5) (Nat.le_of_ble_eq_true rfl)
  rw [lg_entry_eq]
  generalize (lg_sl ([.ref (aS 0), .int p1]) ++ List.replicate (5 - (lg_sl ([.ref (aS 0), .int p1])).length) Slot.unset).toArray = ls at hl ⊢
  have hl : lv_has ls 5 [(0, .ref (aS 0)), (1, .int p1)] := hl
  refine lv_iconst (v := (0 : Int32)) hx hb dX5_weekCost_0 (by decide) ?_
  refine lv_istore_n (lv' := [(2, .int (0 : Int32)), (0, .ref (aS 0)), (1, .int p1)]) hx hb dX5_weekCost_1 rfl hl (by decide) rfl (fun ls hl => ?_)
  refine lv_iload_n hx hb dX5_weekCost_2 rfl (lv_at hl 2 rfl) ?_
  refine lv_bipush (v := (7 : Int32)) hx hb dX5_weekCost_3 (by decide) ?_
  refine lv_imul hx hb dX5_weekCost_5 ?_
  refine lv_topi (fun v1 hv1 => ?_)
  have hR := bd_n hv1 hR
  refine lv_istore_n (lv' := [(3, .int v1), (2, .int (0 : Int32)), (0, .ref (aS 0)), (1, .int p1)]) hx hb dX5_weekCost_6 rfl hl (by decide) rfl (fun ls hl => ?_)
  refine lv_iload_n hx hb dX5_weekCost_7 rfl (lv_at hl 0 rfl) ?_
  refine lv_istore (lv' := [(4, .int v1), (3, .int v1), (2, .int (0 : Int32)), (0, .ref (aS 0)), (1, .int p1)]) hx hb dX5_weekCost_8 hl (by decide) rfl (fun ls hl => ?_)
  have LOOP10 : ∀ (k : Int32 → Int32), (∀ (x2_10 : Int32) (H1 : Heap) (locs : List Loc), k x2_10 = res → va_P (dC, dI) vwCl (wSt cI aS S) H1 → va_D (fun _ => True) (wSt cI aS S) → va_S (a0 s.heap.size) s.heap H1 locs → ∀ (ls : Array Slot), lv_has ls 5 [(2, .int x2_10)] → W p l e (headSpec wsX5_weekCost rm_X5_weekCost).room s m ([.ref (aS 0), .int p1] : List Value).toArray below meth c H1 locs 0 0 (MQ below (q_X5_weekCost dC dI cI cZ cS aS res (a0 s.heap.size)) ([.ref (aS 0), .int p1] : List Value).toArray s 0 0 (a0 s.heap.size)) (F0 m 34 ls [])) → ∀ (nf : Nat) (x2_10 : Int32) (x4_10 : Int32) (H1 : Heap) (locs : List Loc), ((v1 + (7 : Int32))).toInt - (x4_10).toInt ≤ (nf : Int) → f5_weekCost_L10 S v1 nf x2_10 x4_10 k = res → va_P (dC, dI) vwCl (wSt cI aS S) H1 → va_D (fun _ => True) (wSt cI aS S) → va_S (a0 s.heap.size) s.heap H1 locs → ∀ (ls : Array Slot), lv_has ls 5 [(2, .int x2_10), (4, .int x4_10), (3, .int v1), (0, .ref (aS 0))] → W p l e (headSpec wsX5_weekCost rm_X5_weekCost).room s m ([.ref (aS 0), .int p1] : List Value).toArray below meth c H1 locs 0 0 (MQ below (q_X5_weekCost dC dI cI cZ cS aS res (a0 s.heap.size)) ([.ref (aS 0), .int p1] : List Value).toArray s 0 0 (a0 s.heap.size)) (F0 m 10 ls []) := by
    intro k hk nf
    induction nf with
    | zero =>
      intro x2_10 x4_10 H1 locs hfu hR hP hD hS ls hl
      rw [f5_weekCost_L10] at hR
      refine lv_iload hx hb dX5_weekCost_10 (lv_at hl 1 rfl) ?_
      refine lv_iload_n hx hb dX5_weekCost_12 rfl (lv_at hl 2 rfl) ?_
      refine lv_bipush (v := (7 : Int32)) hx hb dX5_weekCost_13 (by decide) ?_
      refine lv_iadd hx hb dX5_weekCost_15 ?_
      refine lv_icmp_ge (tgt := 34) hx hb dX5_weekCost_16 (by decide) (fun c_2 => ?_) (fun c_2 => ?_)
      · skip
        exact hk x2_10 _ _  hR hP hD hS ls (lv_sub hl [0] rfl)
      · exact (fuel0 hfu c_2).elim
    | succ nf ih =>
      intro x2_10 x4_10 H1 locs hfu hR hP hD hS ls hl
      rw [f5_weekCost_L10] at hR
      refine lv_iload hx hb dX5_weekCost_10 (lv_at hl 1 rfl) ?_
      refine lv_iload_n hx hb dX5_weekCost_12 rfl (lv_at hl 2 rfl) ?_
      refine lv_bipush (v := (7 : Int32)) hx hb dX5_weekCost_13 (by decide) ?_
      refine lv_iadd hx hb dX5_weekCost_15 ?_
      refine lv_icmp_ge (tgt := 34) hx hb dX5_weekCost_16 (by decide) (fun c_3 => ?_) (fun c_3 => ?_)
      · rw [if_pos c_3] at hR
        exact hk x2_10 _ _  hR hP hD hS ls (lv_sub hl [0] rfl)
      · rw [if_neg c_3] at hR
        have hfu := fuelS hfu c_3
        refine lv_iload_n hx hb dX5_weekCost_19 rfl (lv_at hl 0 rfl) ?_
        refine lv_aload_n hx hb dX5_weekCost_20 rfl (lv_at hl 3 rfl) ?_
        refine lv_iload hx hb dX5_weekCost_21 (lv_at hl 1 rfl) ?_
        refine va_calli (va_runV (As := [.int x4_10]) (rest := [.int x2_10]) ⟨hx, hb, hml, hown, hts⟩ (met_X5_mealCost l dC dI cI cZ cS aS S H1.size x4_10) (cwV 1 hts gX5_weekCost_X5_mealCost rfl rfl rfl (by decide +kernel) ⟨Nat.le_of_ble_eq_true rfl, Nat.le_of_ble_eq_true rfl⟩) (pV (wc := wSt cI aS S) (ci := 5) (q0 := 0) hK hP hD hN [0, 1, 2, 3, 4, 5, 6, 7, 8, 9, 10] rfl (by decide) rfl rfl) rfl rfl hl.1 rfl (lv_room (Nat.le_of_ble_eq_true rfl)) dX5_weekCost_23 ⟨Nat.zero_le _, Nat.zero_le _⟩) hS (fun q _ h => a0_in hS hA q h) (a0_in hS hA) (fun r4 u t H2 locs ht hvm hw hB hz1 hk1 hS => ?_)
        have hR := bd_n hw hR
        have hP := rdk hP hk1
        refine lv_iadd hx hb dX5_weekCost_26 ?_
        refine lv_topi (fun v5 hv5 => ?_)
        have hR := bd_n hv5 hR
        refine lv_istore_n (lv' := [(2, .int v5), (4, .int x4_10), (3, .int v1), (0, .ref (aS 0))]) hx hb dX5_weekCost_27 rfl hl (by decide) rfl (fun ls hl => ?_)
        refine lv_iinc (v := (x4_10 + 1)) (lv' := [(4, .int (x4_10 + 1)), (2, .int v5), (3, .int v1), (0, .ref (aS 0))]) hx hb dX5_weekCost_28 hl (k := 1) rfl rfl (by decide) rfl (fun ls hl => ?_)
        refine lv_goto (tgt := 10) hx hb dX5_weekCost_31 (by decide) ?_
        exact ih v5 (x4_10 + 1) _ _ hfu hR hP hD hS ls (lv_sub hl [1, 0, 2, 3] rfl)
  refine LOOP10 (fun x2_10 => x2_10) (fun x2_10 H1 locs hR hP hD hS ls hl => ?_) (fuelN v1 (v1 + (7 : Int32))) (0 : Int32) v1 _ _ (fuelE _ _) hR hP hD hS ls (lv_sub hl [2, 0, 1, 3] rfl)
  try dsimp only at hR
  refine lv_iload_n hx hb dX5_weekCost_34 rfl (lv_at hl 0 rfl) ?_
  exact W.iret (v := x2_10) hx hb hr (fun t ht hW => ⟨⟨x2_10, (), rfl, hR, trivial⟩, hS.F ht⟩) hS.2.2 dX5_weekCost_35
abbrev rm_X5_planCost : Room := { frames := 3, cells := 0, slots := 0, locals := 69 }
abbrev q_X5_planCost (dC : Nat → ClassId) (dI : Nat → Nat → Nat) (cI cZ cS : ClassId) (aS : Nat → Nat)  (res : Int32) (A : Nat → Prop) : Array Value → State → Outcome → State → Prop := va_Qi (fun (r : Int32) (u : Unit) => r = res) (fun _ _ => True) A
set_option maxHeartbeats 4000000 in
set_option maxRecDepth 100000 in
theorem met_X5_planCost (l : Launch) (dC : Nat → ClassId) (dI : Nat → Nat → Nat) (cI cZ cS : ClassId) (aS : Nat → Nat) (S : Pic) (sz : Nat)  : Met l yX5_planCost wsX5_planCost rm_X5_planCost (va_Pc [.ref (aS 0)] (pW (dC, dI) (tyS cI cZ cS) (wSt cI aS S) sz)) (q_X5_planCost dC dI cI cZ cS aS (f5_planCost S) (a0 sz)) 0 0 (a0 sz) := by
  refine Met.ofW (cc := cX5_planCost) (maxL := 3) (ret := (some .int)) (by decide) rfl ?_
  intro p e s m args below meth c s₁ B hml hv
  obtain ⟨rfl, hsz, hP, hK, hD0, hN⟩ := hv
  have hx := B.exec
  have hb := B.bytes
  have hr := B.returns
  have hts := atoms_spec (ws := wsX5_planCost) B.pre
  have hown : s.vm.findClass RX5 = some m.cls := findClass_of_methodNamed B.named
  have hlocks := B.notSynchronized
  subst hsz
  have hD := hD0
  have hA : ∀ q : Nat, s.heap.size ≤ q → a0 s.heap.size q := fun q h => Or.inr h
  have hS : va_S (a0 s.heap.size) s.heap s.heap [] := va_S.rf
  have hP : va_P (dC, dI) vwCl (wSt cI aS S) s.heap := hP
  generalize hR : f5_planCost S = res
  rw [f5_planCost] at hR
  have hl := lv_entry ([.ref (aS 0)]) (n := 3) (Nat.le_of_ble_eq_true rfl)
  rw [lg_entry_eq]
  generalize (lg_sl ([.ref (aS 0)]) ++ List.replicate (3 - (lg_sl ([.ref (aS 0)])).length) Slot.unset).toArray = ls at hl ⊢
  have hl : lv_has ls 3 [(0, .ref (aS 0))] := hl
  refine lv_iconst (v := (0 : Int32)) hx hb dX5_planCost_0 (by decide) ?_
  refine lv_istore_n (lv' := [(1, .int (0 : Int32)), (0, .ref (aS 0))]) hx hb dX5_planCost_1 rfl hl (by decide) rfl (fun ls hl => ?_)
  refine lv_iconst (v := (0 : Int32)) hx hb dX5_planCost_2 (by decide) ?_
  refine lv_istore_n (lv' := [(2, .int (0 : Int32)), (1, .int (0 : Int32)), (0, .ref (aS 0))]) hx hb dX5_planCost_3 rfl hl (by decide) rfl (fun ls hl => ?_)
  have LOOP4 : ∀ (k : Int32 → Int32), (∀ (x1_4 : Int32) (H1 : Heap) (locs : List Loc), k x1_4 = res → va_P (dC, dI) vwCl (wSt cI aS S) H1 → va_D (fun _ => True) (wSt cI aS S) → va_S (a0 s.heap.size) s.heap H1 locs → ∀ (ls : Array Slot), lv_has ls 3 [(1, .int x1_4)] → W p l e (headSpec wsX5_planCost rm_X5_planCost).room s m ([.ref (aS 0)] : List Value).toArray below meth c H1 locs 0 0 (MQ below (q_X5_planCost dC dI cI cZ cS aS res (a0 s.heap.size)) ([.ref (aS 0)] : List Value).toArray s 0 0 (a0 s.heap.size)) (F0 m 23 ls [])) → ∀ (nf : Nat) (x1_4 : Int32) (x2_4 : Int32) (H1 : Heap) (locs : List Loc), ((4 : Int32)).toInt - (x2_4).toInt ≤ (nf : Int) → f5_planCost_L4 S nf x1_4 x2_4 k = res → va_P (dC, dI) vwCl (wSt cI aS S) H1 → va_D (fun _ => True) (wSt cI aS S) → va_S (a0 s.heap.size) s.heap H1 locs → ∀ (ls : Array Slot), lv_has ls 3 [(1, .int x1_4), (2, .int x2_4), (0, .ref (aS 0))] → W p l e (headSpec wsX5_planCost rm_X5_planCost).room s m ([.ref (aS 0)] : List Value).toArray below meth c H1 locs 0 0 (MQ below (q_X5_planCost dC dI cI cZ cS aS res (a0 s.heap.size)) ([.ref (aS 0)] : List Value).toArray s 0 0 (a0 s.heap.size)) (F0 m 4 ls []) := by
    intro k hk nf
    induction nf with
    | zero =>
      intro x1_4 x2_4 H1 locs hfu hR hP hD hS ls hl
      rw [f5_planCost_L4] at hR
      refine lv_iload_n hx hb dX5_planCost_4 rfl (lv_at hl 1 rfl) ?_
      refine lv_iconst (v := (4 : Int32)) hx hb dX5_planCost_5 (by decide) ?_
      refine lv_icmp_ge (tgt := 23) hx hb dX5_planCost_6 (by decide) (fun c_1 => ?_) (fun c_1 => ?_)
      · skip
        exact hk x1_4 _ _  hR hP hD hS ls (lv_sub hl [0] rfl)
      · exact (fuel0 hfu c_1).elim
    | succ nf ih =>
      intro x1_4 x2_4 H1 locs hfu hR hP hD hS ls hl
      rw [f5_planCost_L4] at hR
      refine lv_iload_n hx hb dX5_planCost_4 rfl (lv_at hl 1 rfl) ?_
      refine lv_iconst (v := (4 : Int32)) hx hb dX5_planCost_5 (by decide) ?_
      refine lv_icmp_ge (tgt := 23) hx hb dX5_planCost_6 (by decide) (fun c_2 => ?_) (fun c_2 => ?_)
      · rw [if_pos c_2] at hR
        exact hk x1_4 _ _  hR hP hD hS ls (lv_sub hl [0] rfl)
      · rw [if_neg c_2] at hR
        have hfu := fuelS hfu c_2
        refine lv_iload_n hx hb dX5_planCost_9 rfl (lv_at hl 0 rfl) ?_
        refine lv_aload_n hx hb dX5_planCost_10 rfl (lv_at hl 2 rfl) ?_
        refine lv_iload_n hx hb dX5_planCost_11 rfl (lv_at hl 1 rfl) ?_
        refine va_calli (va_runV (As := [.int x2_4]) (rest := [.int x1_4]) ⟨hx, hb, hml, hown, hts⟩ (met_X5_weekCost l dC dI cI cZ cS aS S H1.size x2_4) (cwV 1 hts gX5_planCost_X5_weekCost rfl rfl rfl (by decide +kernel) ⟨Nat.le_of_ble_eq_true rfl, Nat.le_of_ble_eq_true rfl⟩) (pV (wc := wSt cI aS S) (ci := 5) (q0 := 0) hK hP hD hN [0, 1, 2, 3, 4, 5, 6, 7, 8, 9, 10] rfl (by decide) rfl rfl) rfl rfl hl.1 rfl (lv_room (Nat.le_of_ble_eq_true rfl)) dX5_planCost_12 ⟨Nat.zero_le _, Nat.zero_le _⟩) hS (fun q _ h => a0_in hS hA q h) (a0_in hS hA) (fun r3 u t H2 locs ht hvm hw hB hz1 hk1 hS => ?_)
        have hR := bd_n hw hR
        have hP := rdk hP hk1
        refine lv_iadd hx hb dX5_planCost_15 ?_
        refine lv_topi (fun v4 hv4 => ?_)
        have hR := bd_n hv4 hR
        refine lv_istore_n (lv' := [(1, .int v4), (2, .int x2_4), (0, .ref (aS 0))]) hx hb dX5_planCost_16 rfl hl (by decide) rfl (fun ls hl => ?_)
        refine lv_iinc (v := (x2_4 + 1)) (lv' := [(2, .int (x2_4 + 1)), (1, .int v4), (0, .ref (aS 0))]) hx hb dX5_planCost_17 hl (k := 1) rfl rfl (by decide) rfl (fun ls hl => ?_)
        refine lv_goto (tgt := 4) hx hb dX5_planCost_20 (by decide) ?_
        exact ih v4 (x2_4 + 1) _ _ hfu hR hP hD hS ls (lv_sub hl [1, 0, 2] rfl)
  refine LOOP4 (fun x1_4 => x1_4) (fun x1_4 H1 locs hR hP hD hS ls hl => ?_) 4 (0 : Int32) (0 : Int32) _ _ (by decide) hR hP hD hS ls (lv_sub hl [1, 0, 2] rfl)
  try dsimp only at hR
  refine lv_iload_n hx hb dX5_planCost_23 rfl (lv_at hl 0 rfl) ?_
  exact W.iret (v := x1_4) hx hb hr (fun t ht hW => ⟨⟨x1_4, (), rfl, hR, trivial⟩, hS.F ht⟩) hS.2.2 dX5_planCost_24
abbrev rm_X5_isAboveBudget : Room := { frames := 3, cells := 0, slots := 0, locals := 69 }
abbrev q_X5_isAboveBudget (dC : Nat → ClassId) (dI : Nat → Nat → Nat) (cI cZ cS : ClassId) (aS : Nat → Nat)  (res : Int32) (A : Nat → Prop) : Array Value → State → Outcome → State → Prop := va_Qi (fun (r : Int32) (u : Unit) => r = res ∧ narrow .boolean (.int r) = .int r) (fun _ _ => True) A
set_option maxHeartbeats 4000000 in
set_option maxRecDepth 100000 in
theorem met_X5_isAboveBudget (l : Launch) (dC : Nat → ClassId) (dI : Nat → Nat → Nat) (cI cZ cS : ClassId) (aS : Nat → Nat) (S : Pic) (sz : Nat)  : Met l yX5_isAboveBudget wsX5_isAboveBudget rm_X5_isAboveBudget (va_Pc [.ref (aS 0)] (pW (dC, dI) (tyS cI cZ cS) (wSt cI aS S) sz)) (q_X5_isAboveBudget dC dI cI cZ cS aS (f5_isAboveBudget S) (a0 sz)) 0 0 (a0 sz) := by
  refine Met.ofW (cc := cX5_isAboveBudget) (maxL := 2) (ret := (some .boolean)) (by decide) rfl ?_
  intro p e s m args below meth c s₁ B hml hv
  obtain ⟨rfl, hsz, hP, hK, hD0, hN⟩ := hv
  have hx := B.exec
  have hb := B.bytes
  have hr := B.returns
  have hts := atoms_spec (ws := wsX5_isAboveBudget) B.pre
  have hown : s.vm.findClass RX5 = some m.cls := findClass_of_methodNamed B.named
  have hlocks := B.notSynchronized
  subst hsz
  have hD := hD0
  have hA : ∀ q : Nat, s.heap.size ≤ q → a0 s.heap.size q := fun q h => Or.inr h
  have hS : va_S (a0 s.heap.size) s.heap s.heap [] := va_S.rf
  have hP : va_P (dC, dI) vwCl (wSt cI aS S) s.heap := hP
  generalize hR : f5_isAboveBudget S = res
  rw [f5_isAboveBudget] at hR
  have hin5 : ∀ w ∈ wsX50, w ∈ wsX5_isAboveBudget := by decide +kernel
  have hl := lv_entry ([.ref (aS 0)]) (n := 2) (Nat.le_of_ble_eq_true rfl)
  rw [lg_entry_eq]
  generalize (lg_sl ([.ref (aS 0)]) ++ List.replicate (2 - (lg_sl ([.ref (aS 0)])).length) Slot.unset).toArray = ls at hl ⊢
  have hl : lv_has ls 2 [(0, .ref (aS 0))] := hl
  refine lv_iconst (v := (0 : Int32)) hx hb dX5_isAboveBudget_0 (by decide) ?_
  refine lv_istore_n (lv' := [(1, .int (0 : Int32)), (0, .ref (aS 0))]) hx hb dX5_isAboveBudget_1 rfl hl (by decide) rfl (fun ls hl => ?_)
  have LOOP2 : ∀ (k : Int32), (∀  (H1 : Heap) (locs : List Loc), k = res → va_P (dC, dI) vwCl (wSt cI aS S) H1 → va_D (fun _ => True) (wSt cI aS S) → va_S (a0 s.heap.size) s.heap H1 locs → ∀ (ls : Array Slot), lv_has ls 2 [] → W p l e (headSpec wsX5_isAboveBudget rm_X5_isAboveBudget).room s m ([.ref (aS 0)] : List Value).toArray below meth c H1 locs 0 0 (MQ below (q_X5_isAboveBudget dC dI cI cZ cS aS res (a0 s.heap.size)) ([.ref (aS 0)] : List Value).toArray s 0 0 (a0 s.heap.size)) (F0 m 31 ls [])) → ∀ (nf : Nat) (x1_2 : Int32) (H1 : Heap) (locs : List Loc), ((4 : Int32)).toInt - (x1_2).toInt ≤ (nf : Int) → f5_isAboveBudget_L2 S nf x1_2 k = res → va_P (dC, dI) vwCl (wSt cI aS S) H1 → va_D (fun _ => True) (wSt cI aS S) → va_S (a0 s.heap.size) s.heap H1 locs → ∀ (ls : Array Slot), lv_has ls 2 [(1, .int x1_2), (0, .ref (aS 0))] → W p l e (headSpec wsX5_isAboveBudget rm_X5_isAboveBudget).room s m ([.ref (aS 0)] : List Value).toArray below meth c H1 locs 0 0 (MQ below (q_X5_isAboveBudget dC dI cI cZ cS aS res (a0 s.heap.size)) ([.ref (aS 0)] : List Value).toArray s 0 0 (a0 s.heap.size)) (F0 m 2 ls []) := by
    intro k hk nf
    induction nf with
    | zero =>
      intro x1_2 H1 locs hfu hR hP hD hS ls hl
      rw [f5_isAboveBudget_L2] at hR
      refine lv_iload_n hx hb dX5_isAboveBudget_2 rfl (lv_at hl 0 rfl) ?_
      refine lv_iconst (v := (4 : Int32)) hx hb dX5_isAboveBudget_3 (by decide) ?_
      refine lv_icmp_ge (tgt := 31) hx hb dX5_isAboveBudget_4 (by decide) (fun c_1 => ?_) (fun c_1 => ?_)
      · skip
        exact hk  _ _  hR hP hD hS ls (lv_sub hl [] rfl)
      · exact (fuel0 hfu c_1).elim
    | succ nf ih =>
      intro x1_2 H1 locs hfu hR hP hD hS ls hl
      rw [f5_isAboveBudget_L2] at hR
      refine lv_iload_n hx hb dX5_isAboveBudget_2 rfl (lv_at hl 0 rfl) ?_
      refine lv_iconst (v := (4 : Int32)) hx hb dX5_isAboveBudget_3 (by decide) ?_
      refine lv_icmp_ge (tgt := 31) hx hb dX5_isAboveBudget_4 (by decide) (fun c_2 => ?_) (fun c_2 => ?_)
      · rw [if_pos c_2] at hR
        exact hk  _ _  hR hP hD hS ls (lv_sub hl [] rfl)
      · rw [if_neg c_2] at hR
        have hfu := fuelS hfu c_2
        refine lv_aload_n hx hb dX5_isAboveBudget_7 rfl (lv_at hl 1 rfl) ?_
        refine lv_iload_n hx hb dX5_isAboveBudget_8 rfl (lv_at hl 0 rfl) ?_
        refine va_calli (va_runV (As := [.int x1_2]) (rest := []) ⟨hx, hb, hml, hown, hts⟩ (met_X5_weekCost l dC dI cI cZ cS aS S H1.size x1_2) (cwV 1 hts gX5_isAboveBudget_X5_weekCost rfl rfl rfl (by decide +kernel) ⟨Nat.le_of_ble_eq_true rfl, Nat.le_of_ble_eq_true rfl⟩) (pV (wc := wSt cI aS S) (ci := 5) (q0 := 0) hK hP hD hN [0, 1, 2, 3, 4, 5, 6, 7, 8, 9, 10] rfl (by decide) rfl rfl) rfl rfl hl.1 rfl (lv_room (Nat.le_of_ble_eq_true rfl)) dX5_isAboveBudget_9 ⟨Nat.zero_le _, Nat.zero_le _⟩) hS (fun q _ h => a0_in hS hA q h) (a0_in hS hA) (fun r3 u t H2 locs ht hvm hw hB hz1 hk1 hS => ?_)
        have hR := bd_n hw hR
        have hP := rdk hP hk1
        refine lv_aload_n hx hb dX5_isAboveBudget_12 rfl (lv_at hl 1 rfl) ?_
        refine va_get (D := (dC, dI)) (ci := 5) (v := .ref (aS 10)) (C := RX5) (T := TX5) (N := 12) hx hb hts hin5 hown hK hP 0 rfl rfl 10 (by decide) (hw_ hts 1 rfl) (fun _ h9 => h9) rfl dX5_isAboveBudget_13 ?_
        refine lv_iconst (v := (2 : Int32)) hx hb dX5_isAboveBudget_16 (by decide) ?_
        refine va_calli (va_runSN (As := [.ref (aS 10), .int (2 : Int32)]) (rest := [.int r3]) ⟨hx, hb, hml, hown, hts⟩ (met_X6_at l dC dI cI cZ cS (aS 10) 3 (by decide) (S 10) H2.size (2 : Int32)) ⟨va_cnB 2 hts ggX5_isAboveBudget_X6_at rfl rfl rfl (hN_1 hN) (hw_ hts 14 rfl) (by decide +kernel) ⟨Nat.le_of_ble_eq_true rfl, Nat.le_of_ble_eq_true rfl⟩, (hw_ hts 16 rfl), trivial⟩ (pS (wc := [((aS 10), .inl (cI, 3, .inl (S 10)))]) hK hP hD hN [9] rfl (by decide)) rfl rfl hl.1 rfl (lv_room (Nat.le_of_ble_eq_true rfl)) dX5_isAboveBudget_17 ⟨Nat.zero_le _, Nat.zero_le _⟩) hS (fun q _ h => a0_in hS hA q h) (a0_in hS hA) (fun r4 u t H3 locs ht hvm hw hB hz1 hk1 hS => ?_)
        subst hw
        have hP := rdk hP hk1
        refine lv_icmp_le (tgt := 25) hx hb dX5_isAboveBudget_20 (by decide) (fun c_5 => ?_) (fun c_5 => ?_)
        · rw [if_pos c_5] at hR
          refine lv_iinc (v := (x1_2 + 1)) (lv' := [(1, .int (x1_2 + 1)), (0, .ref (aS 0))]) hx hb dX5_isAboveBudget_25 hl (k := 0) rfl rfl (by decide) rfl (fun ls hl => ?_)
          refine lv_goto (tgt := 2) hx hb dX5_isAboveBudget_28 (by decide) ?_
          exact ih (x1_2 + 1) _ _ hfu hR hP hD hS ls (lv_sub hl [0, 1] rfl)
        · rw [if_neg c_5] at hR
          refine lv_iconst (v := (1 : Int32)) hx hb dX5_isAboveBudget_23 (by decide) ?_
          exact W.zret (v := (1 : Int32)) (ty := .boolean) hx hb hr rfl (fun t ht hW => ⟨⟨(1 : Int32), (), rfl, ⟨hR, rfl⟩, trivial⟩, hS.F ht⟩) hS.2.2 dX5_isAboveBudget_24
  refine LOOP2 (0 : Int32) (fun H1 locs hR hP hD hS ls hl => ?_) 4 (0 : Int32) _ _ (by decide) hR hP hD hS ls (lv_sub hl [0, 1] rfl)
  try dsimp only at hR
  refine lv_iconst (v := (0 : Int32)) hx hb dX5_isAboveBudget_31 (by decide) ?_
  exact W.zret (v := (0 : Int32)) (ty := .boolean) hx hb hr rfl (fun t ht hW => ⟨⟨(0 : Int32), (), rfl, ⟨hR, rfl⟩, trivial⟩, hS.F ht⟩) hS.2.2 dX5_isAboveBudget_32
abbrev rm_X5_mealCount : Room := { frames := 1, cells := 0, slots := 0, locals := 21 }
abbrev q_X5_mealCount (dC : Nat → ClassId) (dI : Nat → Nat → Nat) (cI cZ cS : ClassId) (aS : Nat → Nat)  (res : Int32) (A : Nat → Prop) : Array Value → State → Outcome → State → Prop := va_Qi (fun (r : Int32) (u : Unit) => r = res) (fun _ _ => True) A
set_option maxHeartbeats 4000000 in
set_option maxRecDepth 100000 in
theorem met_X5_mealCount (l : Launch) (dC : Nat → ClassId) (dI : Nat → Nat → Nat) (cI cZ cS : ClassId) (aS : Nat → Nat) (S : Pic) (sz : Nat) (p1 : Int32) : Met l yX5_mealCount wsX5_mealCount rm_X5_mealCount (va_Pc [.ref (aS 0), .int p1] (pW (dC, dI) (tyS cI cZ cS) (wSt cI aS S) sz)) (q_X5_mealCount dC dI cI cZ cS aS (f5_mealCount S p1) (a0 sz)) 0 0 (a0 sz) := by
  refine Met.ofW (cc := cX5_mealCount) (maxL := 4) (ret := (some .int)) (by decide) rfl ?_
  intro p e s m args below meth c s₁ B hml hv
  obtain ⟨rfl, hsz, hP, hK, hD0, hN⟩ := hv
  have hx := B.exec
  have hb := B.bytes
  have hr := B.returns
  have hts := atoms_spec (ws := wsX5_mealCount) B.pre
  have hown : s.vm.findClass RX5 = some m.cls := findClass_of_methodNamed B.named
  have hlocks := B.notSynchronized
  subst hsz
  have hD := hD0
  have hA : ∀ q : Nat, s.heap.size ≤ q → a0 s.heap.size q := fun q h => Or.inr h
  have hS : va_S (a0 s.heap.size) s.heap s.heap [] := va_S.rf
  have hP : va_P (dC, dI) vwCl (wSt cI aS S) s.heap := hP
  generalize hR : f5_mealCount S p1 = res
  rw [f5_mealCount] at hR
  have hin5 : ∀ w ∈ wsX50, w ∈ wsX5_mealCount := by decide +kernel
  have hl := lv_entry ([.ref (aS 0), .int p1]) (n := 4) (Nat.le_of_ble_eq_true rfl)
  rw [lg_entry_eq]
  generalize (lg_sl ([.ref (aS 0), .int p1]) ++ List.replicate (4 - (lg_sl ([.ref (aS 0), .int p1])).length) Slot.unset).toArray = ls at hl ⊢
  have hl : lv_has ls 4 [(0, .ref (aS 0)), (1, .int p1)] := hl
  refine lv_iconst (v := (0 : Int32)) hx hb dX5_mealCount_0 (by decide) ?_
  refine lv_istore_n (lv' := [(2, .int (0 : Int32)), (0, .ref (aS 0)), (1, .int p1)]) hx hb dX5_mealCount_1 rfl hl (by decide) rfl (fun ls hl => ?_)
  refine lv_iconst (v := (0 : Int32)) hx hb dX5_mealCount_2 (by decide) ?_
  refine lv_istore_n (lv' := [(3, .int (0 : Int32)), (2, .int (0 : Int32)), (0, .ref (aS 0)), (1, .int p1)]) hx hb dX5_mealCount_3 rfl hl (by decide) rfl (fun ls hl => ?_)
  have LOOP4 : ∀ (k : Int32 → Int32), (∀ (x2_4 : Int32) (H1 : Heap) (locs : List Loc), k x2_4 = res → va_P (dC, dI) vwCl (wSt cI aS S) H1 → va_D (fun _ => True) (wSt cI aS S) → va_S (a0 s.heap.size) s.heap H1 locs → ∀ (ls : Array Slot), lv_has ls 4 [(2, .int x2_4)] → W p l e (headSpec wsX5_mealCount rm_X5_mealCount).room s m ([.ref (aS 0), .int p1] : List Value).toArray below meth c H1 locs 0 0 (MQ below (q_X5_mealCount dC dI cI cZ cS aS res (a0 s.heap.size)) ([.ref (aS 0), .int p1] : List Value).toArray s 0 0 (a0 s.heap.size)) (F0 m 34 ls [])) → ∀ (nf : Nat) (x2_4 : Int32) (x3_4 : Int32) (H1 : Heap) (locs : List Loc), ((3 : Int32)).toInt - (x3_4).toInt ≤ (nf : Int) → f5_mealCount_L4 S p1 nf x2_4 x3_4 k = res → va_P (dC, dI) vwCl (wSt cI aS S) H1 → va_D (fun _ => True) (wSt cI aS S) → va_S (a0 s.heap.size) s.heap H1 locs → ∀ (ls : Array Slot), lv_has ls 4 [(2, .int x2_4), (3, .int x3_4), (0, .ref (aS 0)), (1, .int p1)] → W p l e (headSpec wsX5_mealCount rm_X5_mealCount).room s m ([.ref (aS 0), .int p1] : List Value).toArray below meth c H1 locs 0 0 (MQ below (q_X5_mealCount dC dI cI cZ cS aS res (a0 s.heap.size)) ([.ref (aS 0), .int p1] : List Value).toArray s 0 0 (a0 s.heap.size)) (F0 m 4 ls []) := by
    intro k hk nf
    induction nf with
    | zero =>
      intro x2_4 x3_4 H1 locs hfu hR hP hD hS ls hl
      rw [f5_mealCount_L4] at hR
      refine lv_iload_n hx hb dX5_mealCount_4 rfl (lv_at hl 1 rfl) ?_
      refine lv_iconst (v := (3 : Int32)) hx hb dX5_mealCount_5 (by decide) ?_
      refine lv_icmp_ge (tgt := 34) hx hb dX5_mealCount_6 (by decide) (fun c_1 => ?_) (fun c_1 => ?_)
      · skip
        exact hk x2_4 _ _  hR hP hD hS ls (lv_sub hl [0] rfl)
      · exact (fuel0 hfu c_1).elim
    | succ nf ih =>
      intro x2_4 x3_4 H1 locs hfu hR hP hD hS ls hl
      rw [f5_mealCount_L4] at hR
      refine lv_iload_n hx hb dX5_mealCount_4 rfl (lv_at hl 1 rfl) ?_
      refine lv_iconst (v := (3 : Int32)) hx hb dX5_mealCount_5 (by decide) ?_
      refine lv_icmp_ge (tgt := 34) hx hb dX5_mealCount_6 (by decide) (fun c_2 => ?_) (fun c_2 => ?_)
      · rw [if_pos c_2] at hR
        exact hk x2_4 _ _  hR hP hD hS ls (lv_sub hl [0] rfl)
      · rw [if_neg c_2] at hR
        have hfu := fuelS hfu c_2
        refine lv_aload_n hx hb dX5_mealCount_9 rfl (lv_at hl 2 rfl) ?_
        refine va_get (D := (dC, dI)) (ci := 5) (v := .ref (aS 11)) (C := RX5) (T := TX5) (N := 12) hx hb hts hin5 hown hK hP 0 rfl rfl 11 (by decide) (hw_ hts 1 rfl) (fun _ h9 => h9) rfl dX5_mealCount_10 ?_
        refine lv_iload_n hx hb dX5_mealCount_13 rfl (lv_at hl 3 rfl) ?_
        refine lv_iload_n hx hb dX5_mealCount_14 rfl (lv_at hl 1 rfl) ?_
        refine va_calli (va_runSN (As := [.int p1, .int x3_4]) (rest := [.ref (aS 11)]) ⟨hx, hb, hml, hown, hts⟩ (met_X6_cellOf l dC dI cI cZ cS H1.size p1 x3_4) ⟨va_cnB 2 hts ggX5_mealCount_X6_cellOf rfl rfl rfl (hN_10 hN) (hw_ hts 3 rfl) (by decide +kernel) ⟨Nat.le_of_ble_eq_true rfl, Nat.le_of_ble_eq_true rfl⟩, (hw_ hts 2 rfl), trivial⟩ (pS (wc := []) hK hP hD hN [] rfl (by decide)) rfl rfl hl.1 rfl (lv_room (Nat.le_of_ble_eq_true rfl)) dX5_mealCount_15 ⟨Nat.zero_le _, Nat.zero_le _⟩) hS (fun q _ h => a0_in hS hA q h) (a0_in hS hA) (fun r3 u t H2 locs ht hvm hw hB hz1 hk1 hS => ?_)
        subst hw
        have hP := rdk hP hk1
        refine va_calli (va_runSN (As := [.ref (aS 11), .int (f6_cellOf p1 x3_4)]) (rest := []) ⟨hx, hb, hml, hown, hts⟩ (met_X6_at l dC dI cI cZ cS (aS 11) 84 (by decide) (S 11) H2.size (f6_cellOf p1 x3_4)) ⟨va_cnB 2 hts ggX5_mealCount_X6_at rfl rfl rfl (hN_1 hN) (hw_ hts 3 rfl) (by decide +kernel) ⟨Nat.le_of_ble_eq_true rfl, Nat.le_of_ble_eq_true rfl⟩, (hw_ hts 5 rfl), trivial⟩ (pS (wc := [((aS 11), .inl (cI, 84, .inl (S 11)))]) hK hP hD hN [10] rfl (by decide)) rfl rfl hl.1 rfl (lv_room (Nat.le_of_ble_eq_true rfl)) dX5_mealCount_18 ⟨Nat.zero_le _, Nat.zero_le _⟩) hS (fun q _ h => a0_in hS hA q h) (a0_in hS hA) (fun r4 u t H3 locs ht hvm hw hB hz1 hk1 hS => ?_)
        subst hw
        have hP := rdk hP hk1
        refine lv_iconst (v := (-1 : Int32)) hx hb dX5_mealCount_21 (by decide) ?_
        refine lv_icmp_eq (tgt := 28) hx hb dX5_mealCount_22 (by decide) (fun c_5 => ?_) (fun c_5 => ?_)
        · rw [if_pos c_5] at hR
          refine lv_iinc (v := (x3_4 + 1)) (lv' := [(3, .int (x3_4 + 1)), (2, .int x2_4), (0, .ref (aS 0)), (1, .int p1)]) hx hb dX5_mealCount_28 hl (k := 1) rfl rfl (by decide) rfl (fun ls hl => ?_)
          refine lv_goto (tgt := 4) hx hb dX5_mealCount_31 (by decide) ?_
          exact ih x2_4 (x3_4 + 1) _ _ hfu hR hP hD hS ls (lv_sub hl [1, 0, 2, 3] rfl)
        · rw [if_neg c_5] at hR
          refine lv_iinc (v := (x2_4 + 1)) (lv' := [(2, .int (x2_4 + 1)), (3, .int x3_4), (0, .ref (aS 0)), (1, .int p1)]) hx hb dX5_mealCount_25 hl (k := 0) rfl rfl (by decide) rfl (fun ls hl => ?_)
          refine lv_iinc (v := (x3_4 + 1)) (lv' := [(3, .int (x3_4 + 1)), (2, .int (x2_4 + 1)), (0, .ref (aS 0)), (1, .int p1)]) hx hb dX5_mealCount_28 hl (k := 1) rfl rfl (by decide) rfl (fun ls hl => ?_)
          refine lv_goto (tgt := 4) hx hb dX5_mealCount_31 (by decide) ?_
          exact ih (x2_4 + 1) (x3_4 + 1) _ _ hfu hR hP hD hS ls (lv_sub hl [1, 0, 2, 3] rfl)
  refine LOOP4 (fun x2_4 => x2_4) (fun x2_4 H1 locs hR hP hD hS ls hl => ?_) 3 (0 : Int32) (0 : Int32) _ _ (by decide) hR hP hD hS ls (lv_sub hl [1, 0, 2, 3] rfl)
  try dsimp only at hR
  refine lv_iload_n hx hb dX5_mealCount_34 rfl (lv_at hl 0 rfl) ?_
  exact W.iret (v := x2_4) hx hb hr (fun t ht hW => ⟨⟨x2_4, (), rfl, hR, trivial⟩, hS.F ht⟩) hS.2.2 dX5_mealCount_35
abbrev rm_X5_wholeMeals : Room := { frames := 2, cells := 0, slots := 0, locals := 44 }
abbrev q_X5_wholeMeals (dC : Nat → ClassId) (dI : Nat → Nat → Nat) (cI cZ cS : ClassId) (aS : Nat → Nat)  (res : Int32) (A : Nat → Prop) : Array Value → State → Outcome → State → Prop := va_Qi (fun (r : Int32) (u : Unit) => r = res) (fun _ _ => True) A
set_option maxHeartbeats 4000000 in
set_option maxRecDepth 100000 in
theorem met_X5_wholeMeals (l : Launch) (dC : Nat → ClassId) (dI : Nat → Nat → Nat) (cI cZ cS : ClassId) (aS : Nat → Nat) (S : Pic) (sz : Nat)  : Met l yX5_wholeMeals wsX5_wholeMeals rm_X5_wholeMeals (va_Pc [.ref (aS 0)] (pW (dC, dI) (tyS cI cZ cS) (wSt cI aS S) sz)) (q_X5_wholeMeals dC dI cI cZ cS aS (f5_wholeMeals S) (a0 sz)) 0 0 (a0 sz) := by
  refine Met.ofW (cc := cX5_wholeMeals) (maxL := 3) (ret := (some .int)) (by decide) rfl ?_
  intro p e s m args below meth c s₁ B hml hv
  obtain ⟨rfl, hsz, hP, hK, hD0, hN⟩ := hv
  have hx := B.exec
  have hb := B.bytes
  have hr := B.returns
  have hts := atoms_spec (ws := wsX5_wholeMeals) B.pre
  have hown : s.vm.findClass RX5 = some m.cls := findClass_of_methodNamed B.named
  have hlocks := B.notSynchronized
  subst hsz
  have hD := hD0
  have hA : ∀ q : Nat, s.heap.size ≤ q → a0 s.heap.size q := fun q h => Or.inr h
  have hS : va_S (a0 s.heap.size) s.heap s.heap [] := va_S.rf
  have hP : va_P (dC, dI) vwCl (wSt cI aS S) s.heap := hP
  generalize hR : f5_wholeMeals S = res
  rw [f5_wholeMeals] at hR
  have hl := lv_entry ([.ref (aS 0)]) (n := 3) (Nat.le_of_ble_eq_true rfl)
  rw [lg_entry_eq]
  generalize (lg_sl ([.ref (aS 0)]) ++ List.replicate (3 - (lg_sl ([.ref (aS 0)])).length) Slot.unset).toArray = ls at hl ⊢
  have hl : lv_has ls 3 [(0, .ref (aS 0))] := hl
  refine lv_iconst (v := (0 : Int32)) hx hb dX5_wholeMeals_0 (by decide) ?_
  refine lv_istore_n (lv' := [(1, .int (0 : Int32)), (0, .ref (aS 0))]) hx hb dX5_wholeMeals_1 rfl hl (by decide) rfl (fun ls hl => ?_)
  refine lv_iconst (v := (0 : Int32)) hx hb dX5_wholeMeals_2 (by decide) ?_
  refine lv_istore_n (lv' := [(2, .int (0 : Int32)), (1, .int (0 : Int32)), (0, .ref (aS 0))]) hx hb dX5_wholeMeals_3 rfl hl (by decide) rfl (fun ls hl => ?_)
  have LOOP4 : ∀ (k : Int32 → Int32), (∀ (x1_4 : Int32) (H1 : Heap) (locs : List Loc), k x1_4 = res → va_P (dC, dI) vwCl (wSt cI aS S) H1 → va_D (fun _ => True) (wSt cI aS S) → va_S (a0 s.heap.size) s.heap H1 locs → ∀ (ls : Array Slot), lv_has ls 3 [(1, .int x1_4)] → W p l e (headSpec wsX5_wholeMeals rm_X5_wholeMeals).room s m ([.ref (aS 0)] : List Value).toArray below meth c H1 locs 0 0 (MQ below (q_X5_wholeMeals dC dI cI cZ cS aS res (a0 s.heap.size)) ([.ref (aS 0)] : List Value).toArray s 0 0 (a0 s.heap.size)) (F0 m 28 ls [])) → ∀ (nf : Nat) (x1_4 : Int32) (x2_4 : Int32) (H1 : Heap) (locs : List Loc), ((28 : Int32)).toInt - (x2_4).toInt ≤ (nf : Int) → f5_wholeMeals_L4 S nf x1_4 x2_4 k = res → va_P (dC, dI) vwCl (wSt cI aS S) H1 → va_D (fun _ => True) (wSt cI aS S) → va_S (a0 s.heap.size) s.heap H1 locs → ∀ (ls : Array Slot), lv_has ls 3 [(1, .int x1_4), (2, .int x2_4), (0, .ref (aS 0))] → W p l e (headSpec wsX5_wholeMeals rm_X5_wholeMeals).room s m ([.ref (aS 0)] : List Value).toArray below meth c H1 locs 0 0 (MQ below (q_X5_wholeMeals dC dI cI cZ cS aS res (a0 s.heap.size)) ([.ref (aS 0)] : List Value).toArray s 0 0 (a0 s.heap.size)) (F0 m 4 ls []) := by
    intro k hk nf
    induction nf with
    | zero =>
      intro x1_4 x2_4 H1 locs hfu hR hP hD hS ls hl
      rw [f5_wholeMeals_L4] at hR
      refine lv_iload_n hx hb dX5_wholeMeals_4 rfl (lv_at hl 1 rfl) ?_
      refine lv_bipush (v := (28 : Int32)) hx hb dX5_wholeMeals_5 (by decide) ?_
      refine lv_icmp_ge (tgt := 28) hx hb dX5_wholeMeals_7 (by decide) (fun c_1 => ?_) (fun c_1 => ?_)
      · skip
        exact hk x1_4 _ _  hR hP hD hS ls (lv_sub hl [0] rfl)
      · exact (fuel0 hfu c_1).elim
    | succ nf ih =>
      intro x1_4 x2_4 H1 locs hfu hR hP hD hS ls hl
      rw [f5_wholeMeals_L4] at hR
      refine lv_iload_n hx hb dX5_wholeMeals_4 rfl (lv_at hl 1 rfl) ?_
      refine lv_bipush (v := (28 : Int32)) hx hb dX5_wholeMeals_5 (by decide) ?_
      refine lv_icmp_ge (tgt := 28) hx hb dX5_wholeMeals_7 (by decide) (fun c_2 => ?_) (fun c_2 => ?_)
      · rw [if_pos c_2] at hR
        exact hk x1_4 _ _  hR hP hD hS ls (lv_sub hl [0] rfl)
      · rw [if_neg c_2] at hR
        have hfu := fuelS hfu c_2
        refine lv_aload_n hx hb dX5_wholeMeals_10 rfl (lv_at hl 2 rfl) ?_
        refine lv_iload_n hx hb dX5_wholeMeals_11 rfl (lv_at hl 1 rfl) ?_
        refine va_calli (va_runV (As := [.int x2_4]) (rest := []) ⟨hx, hb, hml, hown, hts⟩ (met_X5_mealCount l dC dI cI cZ cS aS S H1.size x2_4) (cwV 1 hts gX5_wholeMeals_X5_mealCount rfl rfl rfl (by decide +kernel) ⟨Nat.le_of_ble_eq_true rfl, Nat.le_of_ble_eq_true rfl⟩) (pV (wc := wSt cI aS S) (ci := 5) (q0 := 0) hK hP hD hN [0, 1, 2, 3, 4, 5, 6, 7, 8, 9, 10] rfl (by decide) rfl rfl) rfl rfl hl.1 rfl (lv_room (Nat.le_of_ble_eq_true rfl)) dX5_wholeMeals_12 ⟨Nat.zero_le _, Nat.zero_le _⟩) hS (fun q _ h => a0_in hS hA q h) (a0_in hS hA) (fun r3 u t H2 locs ht hvm hw hB hz1 hk1 hS => ?_)
        have hR := bd_n hw hR
        have hP := rdk hP hk1
        refine lv_iconst (v := (3 : Int32)) hx hb dX5_wholeMeals_15 (by decide) ?_
        refine lv_icmp_ne (tgt := 22) hx hb dX5_wholeMeals_16 (by decide) (fun c_4 => ?_) (fun c_4 => ?_)
        · rw [if_neg c_4] at hR
          refine lv_iinc (v := (x2_4 + 1)) (lv' := [(2, .int (x2_4 + 1)), (1, .int x1_4), (0, .ref (aS 0))]) hx hb dX5_wholeMeals_22 hl (k := 1) rfl rfl (by decide) rfl (fun ls hl => ?_)
          refine lv_goto (tgt := 4) hx hb dX5_wholeMeals_25 (by decide) ?_
          exact ih x1_4 (x2_4 + 1) _ _ hfu hR hP hD hS ls (lv_sub hl [1, 0, 2] rfl)
        · rw [if_pos c_4] at hR
          refine lv_iinc (v := (x1_4 + 1)) (lv' := [(1, .int (x1_4 + 1)), (2, .int x2_4), (0, .ref (aS 0))]) hx hb dX5_wholeMeals_19 hl (k := 0) rfl rfl (by decide) rfl (fun ls hl => ?_)
          refine lv_iinc (v := (x2_4 + 1)) (lv' := [(2, .int (x2_4 + 1)), (1, .int (x1_4 + 1)), (0, .ref (aS 0))]) hx hb dX5_wholeMeals_22 hl (k := 1) rfl rfl (by decide) rfl (fun ls hl => ?_)
          refine lv_goto (tgt := 4) hx hb dX5_wholeMeals_25 (by decide) ?_
          exact ih (x1_4 + 1) (x2_4 + 1) _ _ hfu hR hP hD hS ls (lv_sub hl [1, 0, 2] rfl)
  refine LOOP4 (fun x1_4 => x1_4) (fun x1_4 H1 locs hR hP hD hS ls hl => ?_) 28 (0 : Int32) (0 : Int32) _ _ (by decide) hR hP hD hS ls (lv_sub hl [1, 0, 2] rfl)
  try dsimp only at hR
  refine lv_iload_n hx hb dX5_wholeMeals_28 rfl (lv_at hl 0 rfl) ?_
  exact W.iret (v := x1_4) hx hb hr (fun t ht hW => ⟨⟨x1_4, (), rfl, hR, trivial⟩, hS.F ht⟩) hS.2.2 dX5_wholeMeals_29
abbrev rm_X5_sourceCount : Room := { frames := 1, cells := 0, slots := 0, locals := 21 }
abbrev q_X5_sourceCount (dC : Nat → ClassId) (dI : Nat → Nat → Nat) (cI cZ cS : ClassId) (aS : Nat → Nat)  (res : Int32) (A : Nat → Prop) : Array Value → State → Outcome → State → Prop := va_Qi (fun (r : Int32) (u : Unit) => r = res) (fun _ _ => True) A
set_option maxHeartbeats 4000000 in
set_option maxRecDepth 100000 in
theorem met_X5_sourceCount (l : Launch) (dC : Nat → ClassId) (dI : Nat → Nat → Nat) (cI cZ cS : ClassId) (aS : Nat → Nat) (S : Pic) (sz : Nat)  : Met l yX5_sourceCount wsX5_sourceCount rm_X5_sourceCount (va_Pc [.ref (aS 0)] (pW (dC, dI) (tyS cI cZ cS) (wSt cI aS S) sz)) (q_X5_sourceCount dC dI cI cZ cS aS (f5_sourceCount S) (a0 sz)) 0 0 (a0 sz) := by
  refine Met.ofW (cc := cX5_sourceCount) (maxL := 3) (ret := (some .int)) (by decide) rfl ?_
  intro p e s m args below meth c s₁ B hml hv
  obtain ⟨rfl, hsz, hP, hK, hD0, hN⟩ := hv
  have hx := B.exec
  have hb := B.bytes
  have hr := B.returns
  have hts := atoms_spec (ws := wsX5_sourceCount) B.pre
  have hown : s.vm.findClass RX5 = some m.cls := findClass_of_methodNamed B.named
  have hlocks := B.notSynchronized
  subst hsz
  have hD := hD0
  have hA : ∀ q : Nat, s.heap.size ≤ q → a0 s.heap.size q := fun q h => Or.inr h
  have hS : va_S (a0 s.heap.size) s.heap s.heap [] := va_S.rf
  have hP : va_P (dC, dI) vwCl (wSt cI aS S) s.heap := hP
  generalize hR : f5_sourceCount S = res
  rw [f5_sourceCount] at hR
  have hin5 : ∀ w ∈ wsX50, w ∈ wsX5_sourceCount := by decide +kernel
  have hl := lv_entry ([.ref (aS 0)]) (n := 3) (Nat.le_of_ble_eq_true rfl)
  rw [lg_entry_eq]
  generalize (lg_sl ([.ref (aS 0)]) ++ List.replicate (3 - (lg_sl ([.ref (aS 0)])).length) Slot.unset).toArray = ls at hl ⊢
  have hl : lv_has ls 3 [(0, .ref (aS 0))] := hl
  refine lv_iconst (v := (0 : Int32)) hx hb dX5_sourceCount_0 (by decide) ?_
  refine lv_istore_n (lv' := [(1, .int (0 : Int32)), (0, .ref (aS 0))]) hx hb dX5_sourceCount_1 rfl hl (by decide) rfl (fun ls hl => ?_)
  refine lv_iconst (v := (0 : Int32)) hx hb dX5_sourceCount_2 (by decide) ?_
  refine lv_istore_n (lv' := [(2, .int (0 : Int32)), (1, .int (0 : Int32)), (0, .ref (aS 0))]) hx hb dX5_sourceCount_3 rfl hl (by decide) rfl (fun ls hl => ?_)
  have LOOP4 : ∀ (k : Int32 → Int32), (∀ (x1_4 : Int32) (H1 : Heap) (locs : List Loc), k x1_4 = res → va_P (dC, dI) vwCl (wSt cI aS S) H1 → va_D (fun _ => True) (wSt cI aS S) → va_S (a0 s.heap.size) s.heap H1 locs → ∀ (ls : Array Slot), lv_has ls 3 [(1, .int x1_4)] → W p l e (headSpec wsX5_sourceCount rm_X5_sourceCount).room s m ([.ref (aS 0)] : List Value).toArray below meth c H1 locs 0 0 (MQ below (q_X5_sourceCount dC dI cI cZ cS aS res (a0 s.heap.size)) ([.ref (aS 0)] : List Value).toArray s 0 0 (a0 s.heap.size)) (F0 m 38 ls [])) → ∀ (nf : Nat) (x1_4 : Int32) (x2_4 : Int32) (H1 : Heap) (locs : List Loc), ((84 : Int32)).toInt - (x2_4).toInt ≤ (nf : Int) → f5_sourceCount_L4 S nf x1_4 x2_4 k = res → va_P (dC, dI) vwCl (wSt cI aS S) H1 → va_D (fun _ => True) (wSt cI aS S) → va_S (a0 s.heap.size) s.heap H1 locs → ∀ (ls : Array Slot), lv_has ls 3 [(1, .int x1_4), (2, .int x2_4), (0, .ref (aS 0))] → W p l e (headSpec wsX5_sourceCount rm_X5_sourceCount).room s m ([.ref (aS 0)] : List Value).toArray below meth c H1 locs 0 0 (MQ below (q_X5_sourceCount dC dI cI cZ cS aS res (a0 s.heap.size)) ([.ref (aS 0)] : List Value).toArray s 0 0 (a0 s.heap.size)) (F0 m 4 ls []) := by
    intro k hk nf
    induction nf with
    | zero =>
      intro x1_4 x2_4 H1 locs hfu hR hP hD hS ls hl
      rw [f5_sourceCount_L4] at hR
      refine lv_iload_n hx hb dX5_sourceCount_4 rfl (lv_at hl 1 rfl) ?_
      refine lv_bipush (v := (84 : Int32)) hx hb dX5_sourceCount_5 (by decide) ?_
      refine lv_icmp_ge (tgt := 38) hx hb dX5_sourceCount_7 (by decide) (fun c_1 => ?_) (fun c_1 => ?_)
      · skip
        exact hk x1_4 _ _  hR hP hD hS ls (lv_sub hl [0] rfl)
      · exact (fuel0 hfu c_1).elim
    | succ nf ih =>
      intro x1_4 x2_4 H1 locs hfu hR hP hD hS ls hl
      rw [f5_sourceCount_L4] at hR
      refine lv_iload_n hx hb dX5_sourceCount_4 rfl (lv_at hl 1 rfl) ?_
      refine lv_bipush (v := (84 : Int32)) hx hb dX5_sourceCount_5 (by decide) ?_
      refine lv_icmp_ge (tgt := 38) hx hb dX5_sourceCount_7 (by decide) (fun c_2 => ?_) (fun c_2 => ?_)
      · rw [if_pos c_2] at hR
        exact hk x1_4 _ _  hR hP hD hS ls (lv_sub hl [0] rfl)
      · rw [if_neg c_2] at hR
        have hfu := fuelS hfu c_2
        refine lv_aload_n hx hb dX5_sourceCount_10 rfl (lv_at hl 2 rfl) ?_
        refine va_get (D := (dC, dI)) (ci := 5) (v := .ref (aS 5)) (C := RX5) (T := TX5) (N := 12) hx hb hts hin5 hown hK hP 0 rfl rfl 5 (by decide) (hw_ hts 1 rfl) (fun _ h9 => h9) rfl dX5_sourceCount_11 ?_
        refine lv_aload_n hx hb dX5_sourceCount_14 rfl (lv_at hl 2 rfl) ?_
        refine va_get (D := (dC, dI)) (ci := 5) (v := .ref (aS 11)) (C := RX5) (T := TX5) (N := 12) hx hb hts hin5 hown hK hP 0 rfl rfl 11 (by decide) (hw_ hts 2 rfl) (fun _ h9 => h9) rfl dX5_sourceCount_15 ?_
        refine lv_iload_n hx hb dX5_sourceCount_18 rfl (lv_at hl 1 rfl) ?_
        refine va_calli (va_runSN (As := [.ref (aS 11), .int x2_4]) (rest := [.ref (aS 5)]) ⟨hx, hb, hml, hown, hts⟩ (met_X6_at l dC dI cI cZ cS (aS 11) 84 (by decide) (S 11) H1.size x2_4) ⟨va_cnB 2 hts ggX5_sourceCount_X6_at rfl rfl rfl (hN_1 hN) (hw_ hts 4 rfl) (by decide +kernel) ⟨Nat.le_of_ble_eq_true rfl, Nat.le_of_ble_eq_true rfl⟩, (hw_ hts 3 rfl), trivial⟩ (pS (wc := [((aS 11), .inl (cI, 84, .inl (S 11)))]) hK hP hD hN [10] rfl (by decide)) rfl rfl hl.1 rfl (lv_room (Nat.le_of_ble_eq_true rfl)) dX5_sourceCount_19 ⟨Nat.zero_le _, Nat.zero_le _⟩) hS (fun q _ h => a0_in hS hA q h) (a0_in hS hA) (fun r3 u t H2 locs ht hvm hw hB hz1 hk1 hS => ?_)
        subst hw
        have hP := rdk hP hk1
        refine va_calli (va_runSN (As := [.ref (aS 5), .int (f6_at 84 (S 11) x2_4)]) (rest := []) ⟨hx, hb, hml, hown, hts⟩ (met_X6_at l dC dI cI cZ cS (aS 5) 12 (by decide) (S 5) H2.size (f6_at 84 (S 11) x2_4)) ⟨va_cnB 2 hts ggX5_sourceCount_X6_at rfl rfl rfl (hN_1 hN) (hw_ hts 4 rfl) (by decide +kernel) ⟨Nat.le_of_ble_eq_true rfl, Nat.le_of_ble_eq_true rfl⟩, (hw_ hts 3 rfl), trivial⟩ (pS (wc := [((aS 5), .inl (cI, 12, .inl (S 5)))]) hK hP hD hN [5] rfl (by decide)) rfl rfl hl.1 rfl (lv_room (Nat.le_of_ble_eq_true rfl)) dX5_sourceCount_22 ⟨Nat.zero_le _, Nat.zero_le _⟩) hS (fun q _ h => a0_in hS hA q h) (a0_in hS hA) (fun r4 u t H3 locs ht hvm hw hB hz1 hk1 hS => ?_)
        subst hw
        have hP := rdk hP hk1
        refine lv_iconst (v := (-1 : Int32)) hx hb dX5_sourceCount_25 (by decide) ?_
        refine lv_icmp_eq (tgt := 32) hx hb dX5_sourceCount_26 (by decide) (fun c_5 => ?_) (fun c_5 => ?_)
        · rw [if_pos c_5] at hR
          refine lv_iinc (v := (x2_4 + 1)) (lv' := [(2, .int (x2_4 + 1)), (1, .int x1_4), (0, .ref (aS 0))]) hx hb dX5_sourceCount_32 hl (k := 1) rfl rfl (by decide) rfl (fun ls hl => ?_)
          refine lv_goto (tgt := 4) hx hb dX5_sourceCount_35 (by decide) ?_
          exact ih x1_4 (x2_4 + 1) _ _ hfu hR hP hD hS ls (lv_sub hl [1, 0, 2] rfl)
        · rw [if_neg c_5] at hR
          refine lv_iinc (v := (x1_4 + 1)) (lv' := [(1, .int (x1_4 + 1)), (2, .int x2_4), (0, .ref (aS 0))]) hx hb dX5_sourceCount_29 hl (k := 0) rfl rfl (by decide) rfl (fun ls hl => ?_)
          refine lv_iinc (v := (x2_4 + 1)) (lv' := [(2, .int (x2_4 + 1)), (1, .int (x1_4 + 1)), (0, .ref (aS 0))]) hx hb dX5_sourceCount_32 hl (k := 1) rfl rfl (by decide) rfl (fun ls hl => ?_)
          refine lv_goto (tgt := 4) hx hb dX5_sourceCount_35 (by decide) ?_
          exact ih (x1_4 + 1) (x2_4 + 1) _ _ hfu hR hP hD hS ls (lv_sub hl [1, 0, 2] rfl)
  refine LOOP4 (fun x1_4 => x1_4) (fun x1_4 H1 locs hR hP hD hS ls hl => ?_) 84 (0 : Int32) (0 : Int32) _ _ (by decide) hR hP hD hS ls (lv_sub hl [1, 0, 2] rfl)
  try dsimp only at hR
  refine lv_iload_n hx hb dX5_sourceCount_38 rfl (lv_at hl 0 rfl) ?_
  exact W.iret (v := x1_4) hx hb hr (fun t ht hW => ⟨⟨x1_4, (), rfl, hR, trivial⟩, hS.F ht⟩) hS.2.2 dX5_sourceCount_39
abbrev rm_X5_comesOn : Room := { frames := 1, cells := 0, slots := 0, locals := 21 }
abbrev q_X5_comesOn (dC : Nat → ClassId) (dI : Nat → Nat → Nat) (cI cZ cS : ClassId) (aS : Nat → Nat)  (res : Int32) (A : Nat → Prop) : Array Value → State → Outcome → State → Prop := va_Qi (fun (r : Int32) (u : Unit) => r = res ∧ narrow .boolean (.int r) = .int r) (fun _ _ => True) A
set_option maxHeartbeats 4000000 in
set_option maxRecDepth 100000 in
theorem met_X5_comesOn (l : Launch) (dC : Nat → ClassId) (dI : Nat → Nat → Nat) (cI cZ cS : ClassId) (aS : Nat → Nat) (S : Pic) (sz : Nat) (p1 : Int32) (p2 : Int32) : Met l yX5_comesOn wsX5_comesOn rm_X5_comesOn (va_Pc [.ref (aS 0), .int p1, .int p2] (pW (dC, dI) (tyS cI cZ cS) (wSt cI aS S) sz)) (q_X5_comesOn dC dI cI cZ cS aS (f5_comesOn S p1 p2) (a0 sz)) 0 0 (a0 sz) := by
  refine Met.ofW (cc := cX5_comesOn) (maxL := 3) (ret := (some .boolean)) (by decide) rfl ?_
  intro p e s m args below meth c s₁ B hml hv
  obtain ⟨rfl, hsz, hP, hK, hD0, hN⟩ := hv
  have hx := B.exec
  have hb := B.bytes
  have hr := B.returns
  have hts := atoms_spec (ws := wsX5_comesOn) B.pre
  have hown : s.vm.findClass RX5 = some m.cls := findClass_of_methodNamed B.named
  have hlocks := B.notSynchronized
  subst hsz
  have hD := hD0
  have hA : ∀ q : Nat, s.heap.size ≤ q → a0 s.heap.size q := fun q h => Or.inr h
  have hS : va_S (a0 s.heap.size) s.heap s.heap [] := va_S.rf
  have hP : va_P (dC, dI) vwCl (wSt cI aS S) s.heap := hP
  generalize hR : f5_comesOn S p1 p2 = res
  rw [f5_comesOn] at hR
  have hin5 : ∀ w ∈ wsX50, w ∈ wsX5_comesOn := by decide +kernel
  have hl := lv_entry ([.ref (aS 0), .int p1, .int p2]) (n := 3) (Nat.le_of_ble_eq_true rfl)
  rw [lg_entry_eq]
  generalize (lg_sl ([.ref (aS 0), .int p1, .int p2]) ++ List.replicate (3 - (lg_sl ([.ref (aS 0), .int p1, .int p2])).length) Slot.unset).toArray = ls at hl ⊢
  have hl : lv_has ls 3 [(0, .ref (aS 0)), (1, .int p1), (2, .int p2)] := hl
  refine lv_aload_n hx hb dX5_comesOn_0 rfl (lv_at hl 0 rfl) ?_
  refine va_get (D := (dC, dI)) (ci := 5) (v := .ref (aS 8)) (C := RX5) (T := TX5) (N := 12) hx hb hts hin5 hown hK hP 0 rfl rfl 8 (by decide) (hw_ hts 1 rfl) (fun _ h9 => h9) rfl dX5_comesOn_1 ?_
  refine lv_iload_n hx hb dX5_comesOn_4 rfl (lv_at hl 1 rfl) ?_
  refine va_calli (va_runSN (As := [.ref (aS 8), .int p1]) (rest := []) ⟨hx, hb, hml, hown, hts⟩ (met_X6_at l dC dI cI cZ cS (aS 8) 6 (by decide) (S 8) s.heap.size p1) ⟨va_cnB 2 hts ggX5_comesOn_X6_at rfl rfl rfl (hN_1 hN) (hw_ hts 3 rfl) (by decide +kernel) ⟨Nat.le_of_ble_eq_true rfl, Nat.le_of_ble_eq_true rfl⟩, (hw_ hts 2 rfl), trivial⟩ (pS (wc := [((aS 8), .inl (cI, 6, .inl (S 8)))]) hK hP hD hN [7] rfl (by decide)) rfl rfl hl.1 rfl (lv_room (Nat.le_of_ble_eq_true rfl)) dX5_comesOn_5 ⟨Nat.zero_le _, Nat.zero_le _⟩) hS (fun q _ h => a0_in hS hA q h) (a0_in hS hA) (fun r1 u t H1 locs ht hvm hw hB hz1 hk1 hS => ?_)
  subst hw
  have hP := rdk hP hk1
  refine lv_iload_n hx hb dX5_comesOn_8 rfl (lv_at hl 2 rfl) ?_
  refine lv_bipush (v := (7 : Int32)) hx hb dX5_comesOn_9 (by decide) ?_
  refine lv_irem hx hb dX5_comesOn_11 (by decide) ?_
  refine lv_ishr hx hb dX5_comesOn_12 ?_
  refine lv_iconst (v := (1 : Int32)) hx hb dX5_comesOn_13 (by decide) ?_
  refine lv_iand hx hb dX5_comesOn_14 ?_
  refine lv_iconst (v := (1 : Int32)) hx hb dX5_comesOn_15 (by decide) ?_
  refine lv_icmp_ne (tgt := 23) hx hb dX5_comesOn_16 (by decide) (fun c_2 => ?_) (fun c_2 => ?_)
  · rw [if_neg c_2] at hR
    refine lv_iconst (v := (0 : Int32)) hx hb dX5_comesOn_23 (by decide) ?_
    exact W.zret (v := (0 : Int32)) (ty := .boolean) hx hb hr rfl (fun t ht hW => ⟨⟨(0 : Int32), (), rfl, ⟨hR, rfl⟩, trivial⟩, hS.F ht⟩) hS.2.2 dX5_comesOn_24
  · rw [if_pos c_2] at hR
    refine lv_iconst (v := (1 : Int32)) hx hb dX5_comesOn_19 (by decide) ?_
    refine lv_goto (tgt := 24) hx hb dX5_comesOn_20 (by decide) ?_
    exact W.zret (v := (1 : Int32)) (ty := .boolean) hx hb hr rfl (fun t ht hW => ⟨⟨(1 : Int32), (), rfl, ⟨hR, rfl⟩, trivial⟩, hS.F ht⟩) hS.2.2 dX5_comesOn_24
abbrev rm_X5_guestsOn : Room := { frames := 2, cells := 0, slots := 0, locals := 43 }
abbrev q_X5_guestsOn (dC : Nat → ClassId) (dI : Nat → Nat → Nat) (cI cZ cS : ClassId) (aS : Nat → Nat)  (res : Int32) (A : Nat → Prop) : Array Value → State → Outcome → State → Prop := va_Qi (fun (r : Int32) (u : Unit) => r = res) (fun _ _ => True) A
set_option maxHeartbeats 4000000 in
set_option maxRecDepth 100000 in
theorem met_X5_guestsOn (l : Launch) (dC : Nat → ClassId) (dI : Nat → Nat → Nat) (cI cZ cS : ClassId) (aS : Nat → Nat) (S : Pic) (sz : Nat) (p1 : Int32) : Met l yX5_guestsOn wsX5_guestsOn rm_X5_guestsOn (va_Pc [.ref (aS 0), .int p1] (pW (dC, dI) (tyS cI cZ cS) (wSt cI aS S) sz)) (q_X5_guestsOn dC dI cI cZ cS aS (f5_guestsOn S p1) (a0 sz)) 0 0 (a0 sz) := by
  refine Met.ofW (cc := cX5_guestsOn) (maxL := 4) (ret := (some .int)) (by decide) rfl ?_
  intro p e s m args below meth c s₁ B hml hv
  obtain ⟨rfl, hsz, hP, hK, hD0, hN⟩ := hv
  have hx := B.exec
  have hb := B.bytes
  have hr := B.returns
  have hts := atoms_spec (ws := wsX5_guestsOn) B.pre
  have hown : s.vm.findClass RX5 = some m.cls := findClass_of_methodNamed B.named
  have hlocks := B.notSynchronized
  subst hsz
  have hD := hD0
  have hA : ∀ q : Nat, s.heap.size ≤ q → a0 s.heap.size q := fun q h => Or.inr h
  have hS : va_S (a0 s.heap.size) s.heap s.heap [] := va_S.rf
  have hP : va_P (dC, dI) vwCl (wSt cI aS S) s.heap := hP
  generalize hR : f5_guestsOn S p1 = res
  rw [f5_guestsOn] at hR
  have hin5 : ∀ w ∈ wsX50, w ∈ wsX5_guestsOn := by decide +kernel
  have hl := lv_entry ([.ref (aS 0), .int p1]) (n := 4) (Nat.le_of_ble_eq_true rfl)
  rw [lg_entry_eq]
  generalize (lg_sl ([.ref (aS 0), .int p1]) ++ List.replicate (4 - (lg_sl ([.ref (aS 0), .int p1])).length) Slot.unset).toArray = ls at hl ⊢
  have hl : lv_has ls 4 [(0, .ref (aS 0)), (1, .int p1)] := hl
  refine lv_iconst (v := (0 : Int32)) hx hb dX5_guestsOn_0 (by decide) ?_
  refine lv_istore_n (lv' := [(2, .int (0 : Int32)), (0, .ref (aS 0)), (1, .int p1)]) hx hb dX5_guestsOn_1 rfl hl (by decide) rfl (fun ls hl => ?_)
  refine lv_iconst (v := (0 : Int32)) hx hb dX5_guestsOn_2 (by decide) ?_
  refine lv_istore_n (lv' := [(3, .int (0 : Int32)), (2, .int (0 : Int32)), (0, .ref (aS 0)), (1, .int p1)]) hx hb dX5_guestsOn_3 rfl hl (by decide) rfl (fun ls hl => ?_)
  have LOOP4 : ∀ (k : Int32 → Int32), (∀ (x2_4 : Int32) (H1 : Heap) (locs : List Loc), k x2_4 = res → va_P (dC, dI) vwCl (wSt cI aS S) H1 → va_D (fun _ => True) (wSt cI aS S) → va_S (a0 s.heap.size) s.heap H1 locs → ∀ (ls : Array Slot), lv_has ls 4 [(2, .int x2_4)] → W p l e (headSpec wsX5_guestsOn rm_X5_guestsOn).room s m ([.ref (aS 0), .int p1] : List Value).toArray below meth c H1 locs 0 0 (MQ below (q_X5_guestsOn dC dI cI cZ cS aS res (a0 s.heap.size)) ([.ref (aS 0), .int p1] : List Value).toArray s 0 0 (a0 s.heap.size)) (F0 m 30 ls [])) → ∀ (nf : Nat) (x2_4 : Int32) (x3_4 : Int32) (H1 : Heap) (locs : List Loc), (((S 7) 0)).toInt - (x3_4).toInt ≤ (nf : Int) → f5_guestsOn_L4 S p1 nf x2_4 x3_4 k = res → va_P (dC, dI) vwCl (wSt cI aS S) H1 → va_D (fun _ => True) (wSt cI aS S) → va_S (a0 s.heap.size) s.heap H1 locs → ∀ (ls : Array Slot), lv_has ls 4 [(2, .int x2_4), (3, .int x3_4), (0, .ref (aS 0)), (1, .int p1)] → W p l e (headSpec wsX5_guestsOn rm_X5_guestsOn).room s m ([.ref (aS 0), .int p1] : List Value).toArray below meth c H1 locs 0 0 (MQ below (q_X5_guestsOn dC dI cI cZ cS aS res (a0 s.heap.size)) ([.ref (aS 0), .int p1] : List Value).toArray s 0 0 (a0 s.heap.size)) (F0 m 4 ls []) := by
    intro k hk nf
    induction nf with
    | zero =>
      intro x2_4 x3_4 H1 locs hfu hR hP hD hS ls hl
      rw [f5_guestsOn_L4] at hR
      refine lv_iload_n hx hb dX5_guestsOn_4 rfl (lv_at hl 1 rfl) ?_
      refine lv_aload_n hx hb dX5_guestsOn_5 rfl (lv_at hl 2 rfl) ?_
      refine va_get (D := (dC, dI)) (ci := 5) (v := .int ((S 7) 0)) (C := RX5) (T := TX5) (N := 12) hx hb hts hin5 hown hK hP 0 rfl rfl 7 (by decide) (hw_ hts 1 rfl) (fun _ h9 => h9) rfl dX5_guestsOn_6 ?_
      refine lv_icmp_ge (tgt := 30) hx hb dX5_guestsOn_9 (by decide) (fun c_1 => ?_) (fun c_1 => ?_)
      · skip
        exact hk x2_4 _ _  hR hP hD hS ls (lv_sub hl [0] rfl)
      · exact (fuel0 hfu c_1).elim
    | succ nf ih =>
      intro x2_4 x3_4 H1 locs hfu hR hP hD hS ls hl
      rw [f5_guestsOn_L4] at hR
      refine lv_iload_n hx hb dX5_guestsOn_4 rfl (lv_at hl 1 rfl) ?_
      refine lv_aload_n hx hb dX5_guestsOn_5 rfl (lv_at hl 2 rfl) ?_
      refine va_get (D := (dC, dI)) (ci := 5) (v := .int ((S 7) 0)) (C := RX5) (T := TX5) (N := 12) hx hb hts hin5 hown hK hP 0 rfl rfl 7 (by decide) (hw_ hts 1 rfl) (fun _ h9 => h9) rfl dX5_guestsOn_6 ?_
      refine lv_icmp_ge (tgt := 30) hx hb dX5_guestsOn_9 (by decide) (fun c_2 => ?_) (fun c_2 => ?_)
      · rw [if_pos c_2] at hR
        exact hk x2_4 _ _  hR hP hD hS ls (lv_sub hl [0] rfl)
      · rw [if_neg c_2] at hR
        have hfu := fuelS hfu c_2
        refine lv_aload_n hx hb dX5_guestsOn_12 rfl (lv_at hl 2 rfl) ?_
        refine lv_iload_n hx hb dX5_guestsOn_13 rfl (lv_at hl 1 rfl) ?_
        refine lv_iload_n hx hb dX5_guestsOn_14 rfl (lv_at hl 3 rfl) ?_
        refine va_calli (va_runV (As := [.int x3_4, .int p1]) (rest := []) ⟨hx, hb, hml, hown, hts⟩ (met_X5_comesOn l dC dI cI cZ cS aS S H1.size x3_4 p1) (cwV 2 hts gX5_guestsOn_X5_comesOn rfl rfl rfl (by decide +kernel) ⟨Nat.le_of_ble_eq_true rfl, Nat.le_of_ble_eq_true rfl⟩) (pV (wc := wSt cI aS S) (ci := 5) (q0 := 0) hK hP hD hN [0, 1, 2, 3, 4, 5, 6, 7, 8, 9, 10] rfl (by decide) rfl rfl) rfl rfl hl.1 rfl (lv_room (Nat.le_of_ble_eq_true rfl)) dX5_guestsOn_15 ⟨Nat.zero_le _, Nat.zero_le _⟩) hS (fun q _ h => a0_in hS hA q h) (a0_in hS hA) (fun r3 u t H2 locs ht hvm hw hB hz1 hk1 hS => ?_)
        obtain ⟨hw, nb4⟩ := hw
        have hR := bd_n hw hR
        have hP := rdk hP hk1
        refine lv_if_eq (tgt := 24) hx hb dX5_guestsOn_18 (by decide) (fun c_5 => ?_) (fun c_5 => ?_)
        · rw [if_pos c_5] at hR
          refine lv_iinc (v := (x3_4 + 1)) (lv' := [(3, .int (x3_4 + 1)), (2, .int x2_4), (0, .ref (aS 0)), (1, .int p1)]) hx hb dX5_guestsOn_24 hl (k := 1) rfl rfl (by decide) rfl (fun ls hl => ?_)
          refine lv_goto (tgt := 4) hx hb dX5_guestsOn_27 (by decide) ?_
          exact ih x2_4 (x3_4 + 1) _ _ hfu hR hP hD hS ls (lv_sub hl [1, 0, 2, 3] rfl)
        · rw [if_neg c_5] at hR
          refine lv_iinc (v := (x2_4 + 1)) (lv' := [(2, .int (x2_4 + 1)), (3, .int x3_4), (0, .ref (aS 0)), (1, .int p1)]) hx hb dX5_guestsOn_21 hl (k := 0) rfl rfl (by decide) rfl (fun ls hl => ?_)
          refine lv_iinc (v := (x3_4 + 1)) (lv' := [(3, .int (x3_4 + 1)), (2, .int (x2_4 + 1)), (0, .ref (aS 0)), (1, .int p1)]) hx hb dX5_guestsOn_24 hl (k := 1) rfl rfl (by decide) rfl (fun ls hl => ?_)
          refine lv_goto (tgt := 4) hx hb dX5_guestsOn_27 (by decide) ?_
          exact ih (x2_4 + 1) (x3_4 + 1) _ _ hfu hR hP hD hS ls (lv_sub hl [1, 0, 2, 3] rfl)
  refine LOOP4 (fun x2_4 => x2_4) (fun x2_4 H1 locs hR hP hD hS ls hl => ?_) (fuelN (0 : Int32) ((S 7) 0)) (0 : Int32) (0 : Int32) _ _ (fuelE _ _) hR hP hD hS ls (lv_sub hl [1, 0, 2, 3] rfl)
  try dsimp only at hR
  refine lv_iload_n hx hb dX5_guestsOn_30 rfl (lv_at hl 0 rfl) ?_
  exact W.iret (v := x2_4) hx hb hr (fun t ht hW => ⟨⟨x2_4, (), rfl, hR, trivial⟩, hS.F ht⟩) hS.2.2 dX5_guestsOn_31
abbrev rm_X5_dishesBefore : Room := { frames := 2, cells := 0, slots := 0, locals := 44 }
abbrev q_X5_dishesBefore (dC : Nat → ClassId) (dI : Nat → Nat → Nat) (cI cZ cS : ClassId) (aS : Nat → Nat)  (res : Int32) (A : Nat → Prop) : Array Value → State → Outcome → State → Prop := va_Qi (fun (r : Int32) (u : Unit) => r = res) (fun _ _ => True) A
set_option maxHeartbeats 4000000 in
set_option maxRecDepth 100000 in
theorem met_X5_dishesBefore (l : Launch) (dC : Nat → ClassId) (dI : Nat → Nat → Nat) (cI cZ cS : ClassId) (aS : Nat → Nat) (S : Pic) (sz : Nat) (p1 : Int32) : Met l yX5_dishesBefore wsX5_dishesBefore rm_X5_dishesBefore (va_Pc [.ref (aS 0), .int p1] (pW (dC, dI) (tyS cI cZ cS) (wSt cI aS S) sz)) (q_X5_dishesBefore dC dI cI cZ cS aS (f5_dishesBefore S p1) (a0 sz)) 0 0 (a0 sz) := by
  refine Met.ofW (cc := cX5_dishesBefore) (maxL := 4) (ret := (some .int)) (by decide) rfl ?_
  intro p e s m args below meth c s₁ B hml hv
  obtain ⟨rfl, hsz, hP, hK, hD0, hN⟩ := hv
  have hx := B.exec
  have hb := B.bytes
  have hr := B.returns
  have hts := atoms_spec (ws := wsX5_dishesBefore) B.pre
  have hown : s.vm.findClass RX5 = some m.cls := findClass_of_methodNamed B.named
  have hlocks := B.notSynchronized
  subst hsz
  have hD := hD0
  have hA : ∀ q : Nat, s.heap.size ≤ q → a0 s.heap.size q := fun q h => Or.inr h
  have hS : va_S (a0 s.heap.size) s.heap s.heap [] := va_S.rf
  have hP : va_P (dC, dI) vwCl (wSt cI aS S) s.heap := hP
  generalize hR : f5_dishesBefore S p1 = res
  rw [f5_dishesBefore] at hR
  have hl := lv_entry ([.ref (aS 0), .int p1]) (n := 4) (Nat.le_of_ble_eq_true rfl)
  rw [lg_entry_eq]
  generalize (lg_sl ([.ref (aS 0), .int p1]) ++ List.replicate (4 - (lg_sl ([.ref (aS 0), .int p1])).length) Slot.unset).toArray = ls at hl ⊢
  have hl : lv_has ls 4 [(0, .ref (aS 0)), (1, .int p1)] := hl
  refine lv_iconst (v := (0 : Int32)) hx hb dX5_dishesBefore_0 (by decide) ?_
  refine lv_istore_n (lv' := [(2, .int (0 : Int32)), (0, .ref (aS 0)), (1, .int p1)]) hx hb dX5_dishesBefore_1 rfl hl (by decide) rfl (fun ls hl => ?_)
  refine lv_iconst (v := (0 : Int32)) hx hb dX5_dishesBefore_2 (by decide) ?_
  refine lv_istore_n (lv' := [(3, .int (0 : Int32)), (2, .int (0 : Int32)), (0, .ref (aS 0)), (1, .int p1)]) hx hb dX5_dishesBefore_3 rfl hl (by decide) rfl (fun ls hl => ?_)
  have LOOP4 : ∀ (k : Int32 → Int32), (∀ (x2_4 : Int32) (H1 : Heap) (locs : List Loc), k x2_4 = res → va_P (dC, dI) vwCl (wSt cI aS S) H1 → va_D (fun _ => True) (wSt cI aS S) → va_S (a0 s.heap.size) s.heap H1 locs → ∀ (ls : Array Slot), lv_has ls 4 [(2, .int x2_4)] → W p l e (headSpec wsX5_dishesBefore rm_X5_dishesBefore).room s m ([.ref (aS 0), .int p1] : List Value).toArray below meth c H1 locs 0 0 (MQ below (q_X5_dishesBefore dC dI cI cZ cS aS res (a0 s.heap.size)) ([.ref (aS 0), .int p1] : List Value).toArray s 0 0 (a0 s.heap.size)) (F0 m 33 ls [])) → ∀ (nf : Nat) (x2_4 : Int32) (x3_4 : Int32) (H1 : Heap) (locs : List Loc), ((28 : Int32)).toInt - (x3_4).toInt ≤ (nf : Int) → f5_dishesBefore_L4 S p1 nf x2_4 x3_4 k = res → va_P (dC, dI) vwCl (wSt cI aS S) H1 → va_D (fun _ => True) (wSt cI aS S) → va_S (a0 s.heap.size) s.heap H1 locs → ∀ (ls : Array Slot), lv_has ls 4 [(2, .int x2_4), (3, .int x3_4), (0, .ref (aS 0)), (1, .int p1)] → W p l e (headSpec wsX5_dishesBefore rm_X5_dishesBefore).room s m ([.ref (aS 0), .int p1] : List Value).toArray below meth c H1 locs 0 0 (MQ below (q_X5_dishesBefore dC dI cI cZ cS aS res (a0 s.heap.size)) ([.ref (aS 0), .int p1] : List Value).toArray s 0 0 (a0 s.heap.size)) (F0 m 4 ls []) := by
    intro k hk nf
    induction nf with
    | zero =>
      intro x2_4 x3_4 H1 locs hfu hR hP hD hS ls hl
      rw [f5_dishesBefore_L4] at hR
      refine lv_iload_n hx hb dX5_dishesBefore_4 rfl (lv_at hl 1 rfl) ?_
      refine lv_bipush (v := (28 : Int32)) hx hb dX5_dishesBefore_5 (by decide) ?_
      refine lv_icmp_ge (tgt := 33) hx hb dX5_dishesBefore_7 (by decide) (fun c_1 => ?_) (fun c_1 => ?_)
      · skip
        exact hk x2_4 _ _  hR hP hD hS ls (lv_sub hl [0] rfl)
      · exact (fuel0 hfu c_1).elim
    | succ nf ih =>
      intro x2_4 x3_4 H1 locs hfu hR hP hD hS ls hl
      rw [f5_dishesBefore_L4] at hR
      refine lv_iload_n hx hb dX5_dishesBefore_4 rfl (lv_at hl 1 rfl) ?_
      refine lv_bipush (v := (28 : Int32)) hx hb dX5_dishesBefore_5 (by decide) ?_
      refine lv_icmp_ge (tgt := 33) hx hb dX5_dishesBefore_7 (by decide) (fun c_2 => ?_) (fun c_2 => ?_)
      · rw [if_pos c_2] at hR
        exact hk x2_4 _ _  hR hP hD hS ls (lv_sub hl [0] rfl)
      · rw [if_neg c_2] at hR
        have hfu := fuelS hfu c_2
        refine lv_aload_n hx hb dX5_dishesBefore_10 rfl (lv_at hl 2 rfl) ?_
        refine lv_iload_n hx hb dX5_dishesBefore_11 rfl (lv_at hl 3 rfl) ?_
        refine lv_iload_n hx hb dX5_dishesBefore_12 rfl (lv_at hl 1 rfl) ?_
        refine va_calli (va_runV (As := [.int p1, .int x3_4]) (rest := []) ⟨hx, hb, hml, hown, hts⟩ (met_X5_comesOn l dC dI cI cZ cS aS S H1.size p1 x3_4) (cwV 2 hts gX5_dishesBefore_X5_comesOn rfl rfl rfl (by decide +kernel) ⟨Nat.le_of_ble_eq_true rfl, Nat.le_of_ble_eq_true rfl⟩) (pV (wc := wSt cI aS S) (ci := 5) (q0 := 0) hK hP hD hN [0, 1, 2, 3, 4, 5, 6, 7, 8, 9, 10] rfl (by decide) rfl rfl) rfl rfl hl.1 rfl (lv_room (Nat.le_of_ble_eq_true rfl)) dX5_dishesBefore_13 ⟨Nat.zero_le _, Nat.zero_le _⟩) hS (fun q _ h => a0_in hS hA q h) (a0_in hS hA) (fun r3 u t H2 locs ht hvm hw hB hz1 hk1 hS => ?_)
        obtain ⟨hw, nb4⟩ := hw
        have hR := bd_n hw hR
        have hP := rdk hP hk1
        refine lv_if_eq (tgt := 27) hx hb dX5_dishesBefore_16 (by decide) (fun c_5 => ?_) (fun c_5 => ?_)
        · rw [if_pos c_5] at hR
          refine lv_iinc (v := (x3_4 + 1)) (lv' := [(3, .int (x3_4 + 1)), (2, .int x2_4), (0, .ref (aS 0)), (1, .int p1)]) hx hb dX5_dishesBefore_27 hl (k := 1) rfl rfl (by decide) rfl (fun ls hl => ?_)
          refine lv_goto (tgt := 4) hx hb dX5_dishesBefore_30 (by decide) ?_
          exact ih x2_4 (x3_4 + 1) _ _ hfu hR hP hD hS ls (lv_sub hl [1, 0, 2, 3] rfl)
        · rw [if_neg c_5] at hR
          refine lv_iload_n hx hb dX5_dishesBefore_19 rfl (lv_at hl 0 rfl) ?_
          refine lv_aload_n hx hb dX5_dishesBefore_20 rfl (lv_at hl 2 rfl) ?_
          refine lv_iload_n hx hb dX5_dishesBefore_21 rfl (lv_at hl 1 rfl) ?_
          refine va_calli (va_runV (As := [.int x3_4]) (rest := [.int x2_4]) ⟨hx, hb, hml, hown, hts⟩ (met_X5_mealCount l dC dI cI cZ cS aS S H2.size x3_4) (cwV 1 hts gX5_dishesBefore_X5_mealCount rfl rfl rfl (by decide +kernel) ⟨Nat.le_of_ble_eq_true rfl, Nat.le_of_ble_eq_true rfl⟩) (pV (wc := wSt cI aS S) (ci := 5) (q0 := 0) hK hP hD hN [0, 1, 2, 3, 4, 5, 6, 7, 8, 9, 10] rfl (by decide) rfl rfl) rfl rfl hl.1 rfl (lv_room (Nat.le_of_ble_eq_true rfl)) dX5_dishesBefore_22 ⟨Nat.zero_le _, Nat.zero_le _⟩) hS (fun q _ h => a0_in hS hA q h) (a0_in hS hA) (fun r6 u t H3 locs ht hvm hw hB hz1 hk1 hS => ?_)
          have hR := bd_n hw hR
          have hP := rdk hP hk1
          refine lv_iadd hx hb dX5_dishesBefore_25 ?_
          refine lv_topi (fun v7 hv7 => ?_)
          have hR := bd_n hv7 hR
          refine lv_istore_n (lv' := [(2, .int v7), (3, .int x3_4), (0, .ref (aS 0)), (1, .int p1)]) hx hb dX5_dishesBefore_26 rfl hl (by decide) rfl (fun ls hl => ?_)
          refine lv_iinc (v := (x3_4 + 1)) (lv' := [(3, .int (x3_4 + 1)), (2, .int v7), (0, .ref (aS 0)), (1, .int p1)]) hx hb dX5_dishesBefore_27 hl (k := 1) rfl rfl (by decide) rfl (fun ls hl => ?_)
          refine lv_goto (tgt := 4) hx hb dX5_dishesBefore_30 (by decide) ?_
          exact ih v7 (x3_4 + 1) _ _ hfu hR hP hD hS ls (lv_sub hl [1, 0, 2, 3] rfl)
  refine LOOP4 (fun x2_4 => x2_4) (fun x2_4 H1 locs hR hP hD hS ls hl => ?_) 28 (0 : Int32) (0 : Int32) _ _ (by decide) hR hP hD hS ls (lv_sub hl [1, 0, 2, 3] rfl)
  try dsimp only at hR
  refine lv_iload_n hx hb dX5_dishesBefore_33 rfl (lv_at hl 0 rfl) ?_
  exact W.iret (v := x2_4) hx hb hr (fun t ht hW => ⟨⟨x2_4, (), rfl, hR, trivial⟩, hS.F ht⟩) hS.2.2 dX5_dishesBefore_34
abbrev rm_X5_vetoedTastes : Room := { frames := 2, cells := 0, slots := 0, locals := 43 }
abbrev q_X5_vetoedTastes (dC : Nat → ClassId) (dI : Nat → Nat → Nat) (cI cZ cS : ClassId) (aS : Nat → Nat)  (res : Int32) (A : Nat → Prop) : Array Value → State → Outcome → State → Prop := va_Qi (fun (r : Int32) (u : Unit) => r = res) (fun _ _ => True) A
set_option maxHeartbeats 4000000 in
set_option maxRecDepth 100000 in
theorem met_X5_vetoedTastes (l : Launch) (dC : Nat → ClassId) (dI : Nat → Nat → Nat) (cI cZ cS : ClassId) (aS : Nat → Nat) (S : Pic) (sz : Nat) (p1 : Int32) : Met l yX5_vetoedTastes wsX5_vetoedTastes rm_X5_vetoedTastes (va_Pc [.ref (aS 0), .int p1] (pW (dC, dI) (tyS cI cZ cS) (wSt cI aS S) sz)) (q_X5_vetoedTastes dC dI cI cZ cS aS (f5_vetoedTastes S p1) (a0 sz)) 0 0 (a0 sz) := by
  refine Met.ofW (cc := cX5_vetoedTastes) (maxL := 4) (ret := (some .int)) (by decide) rfl ?_
  intro p e s m args below meth c s₁ B hml hv
  obtain ⟨rfl, hsz, hP, hK, hD0, hN⟩ := hv
  have hx := B.exec
  have hb := B.bytes
  have hr := B.returns
  have hts := atoms_spec (ws := wsX5_vetoedTastes) B.pre
  have hown : s.vm.findClass RX5 = some m.cls := findClass_of_methodNamed B.named
  have hlocks := B.notSynchronized
  subst hsz
  have hD := hD0
  have hA : ∀ q : Nat, s.heap.size ≤ q → a0 s.heap.size q := fun q h => Or.inr h
  have hS : va_S (a0 s.heap.size) s.heap s.heap [] := va_S.rf
  have hP : va_P (dC, dI) vwCl (wSt cI aS S) s.heap := hP
  generalize hR : f5_vetoedTastes S p1 = res
  rw [f5_vetoedTastes] at hR
  have hin5 : ∀ w ∈ wsX50, w ∈ wsX5_vetoedTastes := by decide +kernel
  have hl := lv_entry ([.ref (aS 0), .int p1]) (n := 4) (Nat.le_of_ble_eq_true rfl)
  rw [lg_entry_eq]
  generalize (lg_sl ([.ref (aS 0), .int p1]) ++ List.replicate (4 - (lg_sl ([.ref (aS 0), .int p1])).length) Slot.unset).toArray = ls at hl ⊢
  have hl : lv_has ls 4 [(0, .ref (aS 0)), (1, .int p1)] := hl
  refine lv_iconst (v := (0 : Int32)) hx hb dX5_vetoedTastes_0 (by decide) ?_
  refine lv_istore_n (lv' := [(2, .int (0 : Int32)), (0, .ref (aS 0)), (1, .int p1)]) hx hb dX5_vetoedTastes_1 rfl hl (by decide) rfl (fun ls hl => ?_)
  refine lv_iconst (v := (0 : Int32)) hx hb dX5_vetoedTastes_2 (by decide) ?_
  refine lv_istore_n (lv' := [(3, .int (0 : Int32)), (2, .int (0 : Int32)), (0, .ref (aS 0)), (1, .int p1)]) hx hb dX5_vetoedTastes_3 rfl hl (by decide) rfl (fun ls hl => ?_)
  have LOOP4 : ∀ (k : Int32 → Int32), (∀ (x2_4 : Int32) (H1 : Heap) (locs : List Loc), k x2_4 = res → va_P (dC, dI) vwCl (wSt cI aS S) H1 → va_D (fun _ => True) (wSt cI aS S) → va_S (a0 s.heap.size) s.heap H1 locs → ∀ (ls : Array Slot), lv_has ls 4 [(2, .int x2_4)] → W p l e (headSpec wsX5_vetoedTastes rm_X5_vetoedTastes).room s m ([.ref (aS 0), .int p1] : List Value).toArray below meth c H1 locs 0 0 (MQ below (q_X5_vetoedTastes dC dI cI cZ cS aS res (a0 s.heap.size)) ([.ref (aS 0), .int p1] : List Value).toArray s 0 0 (a0 s.heap.size)) (F0 m 38 ls [])) → ∀ (nf : Nat) (x2_4 : Int32) (x3_4 : Int32) (H1 : Heap) (locs : List Loc), (((S 7) 0)).toInt - (x3_4).toInt ≤ (nf : Int) → f5_vetoedTastes_L4 S p1 nf x2_4 x3_4 k = res → va_P (dC, dI) vwCl (wSt cI aS S) H1 → va_D (fun _ => True) (wSt cI aS S) → va_S (a0 s.heap.size) s.heap H1 locs → ∀ (ls : Array Slot), lv_has ls 4 [(2, .int x2_4), (3, .int x3_4), (0, .ref (aS 0)), (1, .int p1)] → W p l e (headSpec wsX5_vetoedTastes rm_X5_vetoedTastes).room s m ([.ref (aS 0), .int p1] : List Value).toArray below meth c H1 locs 0 0 (MQ below (q_X5_vetoedTastes dC dI cI cZ cS aS res (a0 s.heap.size)) ([.ref (aS 0), .int p1] : List Value).toArray s 0 0 (a0 s.heap.size)) (F0 m 4 ls []) := by
    intro k hk nf
    induction nf with
    | zero =>
      intro x2_4 x3_4 H1 locs hfu hR hP hD hS ls hl
      rw [f5_vetoedTastes_L4] at hR
      refine lv_iload_n hx hb dX5_vetoedTastes_4 rfl (lv_at hl 1 rfl) ?_
      refine lv_aload_n hx hb dX5_vetoedTastes_5 rfl (lv_at hl 2 rfl) ?_
      refine va_get (D := (dC, dI)) (ci := 5) (v := .int ((S 7) 0)) (C := RX5) (T := TX5) (N := 12) hx hb hts hin5 hown hK hP 0 rfl rfl 7 (by decide) (hw_ hts 1 rfl) (fun _ h9 => h9) rfl dX5_vetoedTastes_6 ?_
      refine lv_icmp_ge (tgt := 38) hx hb dX5_vetoedTastes_9 (by decide) (fun c_1 => ?_) (fun c_1 => ?_)
      · skip
        exact hk x2_4 _ _  hR hP hD hS ls (lv_sub hl [0] rfl)
      · exact (fuel0 hfu c_1).elim
    | succ nf ih =>
      intro x2_4 x3_4 H1 locs hfu hR hP hD hS ls hl
      rw [f5_vetoedTastes_L4] at hR
      refine lv_iload_n hx hb dX5_vetoedTastes_4 rfl (lv_at hl 1 rfl) ?_
      refine lv_aload_n hx hb dX5_vetoedTastes_5 rfl (lv_at hl 2 rfl) ?_
      refine va_get (D := (dC, dI)) (ci := 5) (v := .int ((S 7) 0)) (C := RX5) (T := TX5) (N := 12) hx hb hts hin5 hown hK hP 0 rfl rfl 7 (by decide) (hw_ hts 1 rfl) (fun _ h9 => h9) rfl dX5_vetoedTastes_6 ?_
      refine lv_icmp_ge (tgt := 38) hx hb dX5_vetoedTastes_9 (by decide) (fun c_2 => ?_) (fun c_2 => ?_)
      · rw [if_pos c_2] at hR
        exact hk x2_4 _ _  hR hP hD hS ls (lv_sub hl [0] rfl)
      · rw [if_neg c_2] at hR
        have hfu := fuelS hfu c_2
        refine lv_aload_n hx hb dX5_vetoedTastes_12 rfl (lv_at hl 2 rfl) ?_
        refine lv_iload_n hx hb dX5_vetoedTastes_13 rfl (lv_at hl 1 rfl) ?_
        refine lv_iload_n hx hb dX5_vetoedTastes_14 rfl (lv_at hl 3 rfl) ?_
        refine va_calli (va_runV (As := [.int x3_4, .int p1]) (rest := []) ⟨hx, hb, hml, hown, hts⟩ (met_X5_comesOn l dC dI cI cZ cS aS S H1.size x3_4 p1) (cwV 2 hts gX5_vetoedTastes_X5_comesOn rfl rfl rfl (by decide +kernel) ⟨Nat.le_of_ble_eq_true rfl, Nat.le_of_ble_eq_true rfl⟩) (pV (wc := wSt cI aS S) (ci := 5) (q0 := 0) hK hP hD hN [0, 1, 2, 3, 4, 5, 6, 7, 8, 9, 10] rfl (by decide) rfl rfl) rfl rfl hl.1 rfl (lv_room (Nat.le_of_ble_eq_true rfl)) dX5_vetoedTastes_15 ⟨Nat.zero_le _, Nat.zero_le _⟩) hS (fun q _ h => a0_in hS hA q h) (a0_in hS hA) (fun r3 u t H2 locs ht hvm hw hB hz1 hk1 hS => ?_)
        obtain ⟨hw, nb4⟩ := hw
        have hR := bd_n hw hR
        have hP := rdk hP hk1
        refine lv_if_eq (tgt := 32) hx hb dX5_vetoedTastes_18 (by decide) (fun c_5 => ?_) (fun c_5 => ?_)
        · rw [if_pos c_5] at hR
          refine lv_iinc (v := (x3_4 + 1)) (lv' := [(3, .int (x3_4 + 1)), (2, .int x2_4), (0, .ref (aS 0)), (1, .int p1)]) hx hb dX5_vetoedTastes_32 hl (k := 1) rfl rfl (by decide) rfl (fun ls hl => ?_)
          refine lv_goto (tgt := 4) hx hb dX5_vetoedTastes_35 (by decide) ?_
          exact ih x2_4 (x3_4 + 1) _ _ hfu hR hP hD hS ls (lv_sub hl [1, 0, 2, 3] rfl)
        · rw [if_neg c_5] at hR
          refine lv_iload_n hx hb dX5_vetoedTastes_21 rfl (lv_at hl 0 rfl) ?_
          refine lv_aload_n hx hb dX5_vetoedTastes_22 rfl (lv_at hl 2 rfl) ?_
          refine va_get (D := (dC, dI)) (ci := 5) (v := .ref (aS 9)) (C := RX5) (T := TX5) (N := 12) hx hb hts hin5 hown hK hP 0 rfl rfl 9 (by decide) (hw_ hts 2 rfl) (fun _ h9 => h9) rfl dX5_vetoedTastes_23 ?_
          refine lv_iload_n hx hb dX5_vetoedTastes_26 rfl (lv_at hl 1 rfl) ?_
          refine va_calli (va_runSN (As := [.ref (aS 9), .int x3_4]) (rest := [.int x2_4]) ⟨hx, hb, hml, hown, hts⟩ (met_X6_at l dC dI cI cZ cS (aS 9) 6 (by decide) (S 9) H2.size x3_4) ⟨va_cnB 2 hts ggX5_vetoedTastes_X6_at rfl rfl rfl (hN_1 hN) (hw_ hts 10 rfl) (by decide +kernel) ⟨Nat.le_of_ble_eq_true rfl, Nat.le_of_ble_eq_true rfl⟩, (hw_ hts 9 rfl), trivial⟩ (pS (wc := [((aS 9), .inl (cI, 6, .inl (S 9)))]) hK hP hD hN [8] rfl (by decide)) rfl rfl hl.1 rfl (lv_room (Nat.le_of_ble_eq_true rfl)) dX5_vetoedTastes_27 ⟨Nat.zero_le _, Nat.zero_le _⟩) hS (fun q _ h => a0_in hS hA q h) (a0_in hS hA) (fun r6 u t H3 locs ht hvm hw hB hz1 hk1 hS => ?_)
          subst hw
          have hP := rdk hP hk1
          refine lv_ior hx hb dX5_vetoedTastes_30 ?_
          refine lv_topi (fun v7 hv7 => ?_)
          have hR := bd_n hv7 hR
          refine lv_istore_n (lv' := [(2, .int v7), (3, .int x3_4), (0, .ref (aS 0)), (1, .int p1)]) hx hb dX5_vetoedTastes_31 rfl hl (by decide) rfl (fun ls hl => ?_)
          refine lv_iinc (v := (x3_4 + 1)) (lv' := [(3, .int (x3_4 + 1)), (2, .int v7), (0, .ref (aS 0)), (1, .int p1)]) hx hb dX5_vetoedTastes_32 hl (k := 1) rfl rfl (by decide) rfl (fun ls hl => ?_)
          refine lv_goto (tgt := 4) hx hb dX5_vetoedTastes_35 (by decide) ?_
          exact ih v7 (x3_4 + 1) _ _ hfu hR hP hD hS ls (lv_sub hl [1, 0, 2, 3] rfl)
  refine LOOP4 (fun x2_4 => x2_4) (fun x2_4 H1 locs hR hP hD hS ls hl => ?_) (fuelN (0 : Int32) ((S 7) 0)) (0 : Int32) (0 : Int32) _ _ (fuelE _ _) hR hP hD hS ls (lv_sub hl [1, 0, 2, 3] rfl)
  try dsimp only at hR
  refine lv_iload_n hx hb dX5_vetoedTastes_38 rfl (lv_at hl 0 rfl) ?_
  exact W.iret (v := x2_4) hx hb hr (fun t ht hW => ⟨⟨x2_4, (), rfl, hR, trivial⟩, hS.F ht⟩) hS.2.2 dX5_vetoedTastes_39
abbrev rm_X5_isVetoed : Room := { frames := 3, cells := 0, slots := 0, locals := 66 }
abbrev q_X5_isVetoed (dC : Nat → ClassId) (dI : Nat → Nat → Nat) (cI cZ cS : ClassId) (aS : Nat → Nat)  (res : Int32) (A : Nat → Prop) : Array Value → State → Outcome → State → Prop := va_Qi (fun (r : Int32) (u : Unit) => r = res ∧ narrow .boolean (.int r) = .int r) (fun _ _ => True) A
set_option maxHeartbeats 4000000 in
set_option maxRecDepth 100000 in
theorem met_X5_isVetoed (l : Launch) (dC : Nat → ClassId) (dI : Nat → Nat → Nat) (cI cZ cS : ClassId) (aS : Nat → Nat) (S : Pic) (sz : Nat) (p1 : Int32) (p2 : Int32) : Met l yX5_isVetoed wsX5_isVetoed rm_X5_isVetoed (va_Pc [.ref (aS 0), .int p1, .int p2] (pW (dC, dI) (tyS cI cZ cS) (wSt cI aS S) sz)) (q_X5_isVetoed dC dI cI cZ cS aS (f5_isVetoed S p1 p2) (a0 sz)) 0 0 (a0 sz) := by
  refine Met.ofW (cc := cX5_isVetoed) (maxL := 3) (ret := (some .boolean)) (by decide) rfl ?_
  intro p e s m args below meth c s₁ B hml hv
  obtain ⟨rfl, hsz, hP, hK, hD0, hN⟩ := hv
  have hx := B.exec
  have hb := B.bytes
  have hr := B.returns
  have hts := atoms_spec (ws := wsX5_isVetoed) B.pre
  have hown : s.vm.findClass RX5 = some m.cls := findClass_of_methodNamed B.named
  have hlocks := B.notSynchronized
  subst hsz
  have hD := hD0
  have hA : ∀ q : Nat, s.heap.size ≤ q → a0 s.heap.size q := fun q h => Or.inr h
  have hS : va_S (a0 s.heap.size) s.heap s.heap [] := va_S.rf
  have hP : va_P (dC, dI) vwCl (wSt cI aS S) s.heap := hP
  generalize hR : f5_isVetoed S p1 p2 = res
  rw [f5_isVetoed] at hR
  have hin5 : ∀ w ∈ wsX50, w ∈ wsX5_isVetoed := by decide +kernel
  have hl := lv_entry ([.ref (aS 0), .int p1, .int p2]) (n := 3) (Nat.le_of_ble_eq_true rfl)
  rw [lg_entry_eq]
  generalize (lg_sl ([.ref (aS 0), .int p1, .int p2]) ++ List.replicate (3 - (lg_sl ([.ref (aS 0), .int p1, .int p2])).length) Slot.unset).toArray = ls at hl ⊢
  have hl : lv_has ls 3 [(0, .ref (aS 0)), (1, .int p1), (2, .int p2)] := hl
  refine lv_aload_n hx hb dX5_isVetoed_0 rfl (lv_at hl 0 rfl) ?_
  refine lv_iload_n hx hb dX5_isVetoed_1 rfl (lv_at hl 1 rfl) ?_
  refine va_calli (va_runV (As := [.int p1]) (rest := []) ⟨hx, hb, hml, hown, hts⟩ (met_X5_vetoedTastes l dC dI cI cZ cS aS S s.heap.size p1) (cwV 1 hts gX5_isVetoed_X5_vetoedTastes rfl rfl rfl (by decide +kernel) ⟨Nat.le_of_ble_eq_true rfl, Nat.le_of_ble_eq_true rfl⟩) (pV (wc := wSt cI aS S) (ci := 5) (q0 := 0) hK hP hD hN [0, 1, 2, 3, 4, 5, 6, 7, 8, 9, 10] rfl (by decide) rfl rfl) rfl rfl hl.1 rfl (lv_room (Nat.le_of_ble_eq_true rfl)) dX5_isVetoed_2 ⟨Nat.zero_le _, Nat.zero_le _⟩) hS (fun q _ h => a0_in hS hA q h) (a0_in hS hA) (fun r1 u t H1 locs ht hvm hw hB hz1 hk1 hS => ?_)
  have hR := bd_n hw hR
  have hP := rdk hP hk1
  refine lv_aload_n hx hb dX5_isVetoed_5 rfl (lv_at hl 0 rfl) ?_
  refine va_get (D := (dC, dI)) (ci := 5) (v := .ref (aS 3)) (C := RX5) (T := TX5) (N := 12) hx hb hts hin5 hown hK hP 0 rfl rfl 3 (by decide) (hw_ hts 1 rfl) (fun _ h9 => h9) rfl dX5_isVetoed_6 ?_
  refine lv_iload_n hx hb dX5_isVetoed_9 rfl (lv_at hl 2 rfl) ?_
  refine va_calli (va_runSN (As := [.ref (aS 3), .int p2]) (rest := [.int r1]) ⟨hx, hb, hml, hown, hts⟩ (met_X6_at l dC dI cI cZ cS (aS 3) 12 (by decide) (S 3) H1.size p2) ⟨va_cnB 2 hts ggX5_isVetoed_X6_at rfl rfl rfl (hN_1 hN) (hw_ hts 15 rfl) (by decide +kernel) ⟨Nat.le_of_ble_eq_true rfl, Nat.le_of_ble_eq_true rfl⟩, (hw_ hts 14 rfl), trivial⟩ (pS (wc := [((aS 3), .inl (cI, 12, .inl (S 3)))]) hK hP hD hN [3] rfl (by decide)) rfl rfl hl.1 rfl (lv_room (Nat.le_of_ble_eq_true rfl)) dX5_isVetoed_10 ⟨Nat.zero_le _, Nat.zero_le _⟩) hS (fun q _ h => a0_in hS hA q h) (a0_in hS hA) (fun r2 u t H2 locs ht hvm hw hB hz1 hk1 hS => ?_)
  subst hw
  have hP := rdk hP hk1
  refine lv_ishr hx hb dX5_isVetoed_13 ?_
  refine lv_iconst (v := (1 : Int32)) hx hb dX5_isVetoed_14 (by decide) ?_
  refine lv_iand hx hb dX5_isVetoed_15 ?_
  refine lv_iconst (v := (1 : Int32)) hx hb dX5_isVetoed_16 (by decide) ?_
  refine lv_icmp_ne (tgt := 24) hx hb dX5_isVetoed_17 (by decide) (fun c_3 => ?_) (fun c_3 => ?_)
  · rw [if_neg c_3] at hR
    refine lv_iconst (v := (0 : Int32)) hx hb dX5_isVetoed_24 (by decide) ?_
    exact W.zret (v := (0 : Int32)) (ty := .boolean) hx hb hr rfl (fun t ht hW => ⟨⟨(0 : Int32), (), rfl, ⟨hR, rfl⟩, trivial⟩, hS.F ht⟩) hS.2.2 dX5_isVetoed_25
  · rw [if_pos c_3] at hR
    refine lv_iconst (v := (1 : Int32)) hx hb dX5_isVetoed_20 (by decide) ?_
    refine lv_goto (tgt := 25) hx hb dX5_isVetoed_21 (by decide) ?_
    exact W.zret (v := (1 : Int32)) (ty := .boolean) hx hb hr rfl (fun t ht hW => ⟨⟨(1 : Int32), (), rfl, ⟨hR, rfl⟩, trivial⟩, hS.F ht⟩) hS.2.2 dX5_isVetoed_25
abbrev rm_X5_hasVetoedDish : Room := { frames := 4, cells := 0, slots := 0, locals := 88 }
abbrev q_X5_hasVetoedDish (dC : Nat → ClassId) (dI : Nat → Nat → Nat) (cI cZ cS : ClassId) (aS : Nat → Nat)  (res : Int32) (A : Nat → Prop) : Array Value → State → Outcome → State → Prop := va_Qi (fun (r : Int32) (u : Unit) => r = res ∧ narrow .boolean (.int r) = .int r) (fun _ _ => True) A
set_option maxHeartbeats 4000000 in
set_option maxRecDepth 100000 in
theorem met_X5_hasVetoedDish (l : Launch) (dC : Nat → ClassId) (dI : Nat → Nat → Nat) (cI cZ cS : ClassId) (aS : Nat → Nat) (S : Pic) (sz : Nat)  : Met l yX5_hasVetoedDish wsX5_hasVetoedDish rm_X5_hasVetoedDish (va_Pc [.ref (aS 0)] (pW (dC, dI) (tyS cI cZ cS) (wSt cI aS S) sz)) (q_X5_hasVetoedDish dC dI cI cZ cS aS (f5_hasVetoedDish S) (a0 sz)) 0 0 (a0 sz) := by
  refine Met.ofW (cc := cX5_hasVetoedDish) (maxL := 3) (ret := (some .boolean)) (by decide) rfl ?_
  intro p e s m args below meth c s₁ B hml hv
  obtain ⟨rfl, hsz, hP, hK, hD0, hN⟩ := hv
  have hx := B.exec
  have hb := B.bytes
  have hr := B.returns
  have hts := atoms_spec (ws := wsX5_hasVetoedDish) B.pre
  have hown : s.vm.findClass RX5 = some m.cls := findClass_of_methodNamed B.named
  have hlocks := B.notSynchronized
  subst hsz
  have hD := hD0
  have hA : ∀ q : Nat, s.heap.size ≤ q → a0 s.heap.size q := fun q h => Or.inr h
  have hS : va_S (a0 s.heap.size) s.heap s.heap [] := va_S.rf
  have hP : va_P (dC, dI) vwCl (wSt cI aS S) s.heap := hP
  generalize hR : f5_hasVetoedDish S = res
  rw [f5_hasVetoedDish] at hR
  have hin5 : ∀ w ∈ wsX50, w ∈ wsX5_hasVetoedDish := by decide +kernel
  have hl := lv_entry ([.ref (aS 0)]) (n := 3) (Nat.le_of_ble_eq_true rfl)
  rw [lg_entry_eq]
  generalize (lg_sl ([.ref (aS 0)]) ++ List.replicate (3 - (lg_sl ([.ref (aS 0)])).length) Slot.unset).toArray = ls at hl ⊢
  have hl : lv_has ls 3 [(0, .ref (aS 0))] := hl
  refine lv_iconst (v := (0 : Int32)) hx hb dX5_hasVetoedDish_0 (by decide) ?_
  refine lv_istore_n (lv' := [(1, .int (0 : Int32)), (0, .ref (aS 0))]) hx hb dX5_hasVetoedDish_1 rfl hl (by decide) rfl (fun ls hl => ?_)
  have LOOP2 : ∀ (k : Int32), (∀  (H1 : Heap) (locs : List Loc), k = res → va_P (dC, dI) vwCl (wSt cI aS S) H1 → va_D (fun _ => True) (wSt cI aS S) → va_S (a0 s.heap.size) s.heap H1 locs → ∀ (ls : Array Slot), lv_has ls 3 [] → W p l e (headSpec wsX5_hasVetoedDish rm_X5_hasVetoedDish).room s m ([.ref (aS 0)] : List Value).toArray below meth c H1 locs 0 0 (MQ below (q_X5_hasVetoedDish dC dI cI cZ cS aS res (a0 s.heap.size)) ([.ref (aS 0)] : List Value).toArray s 0 0 (a0 s.heap.size)) (F0 m 41 ls [])) → ∀ (nf : Nat) (x1_2 : Int32) (H1 : Heap) (locs : List Loc), ((84 : Int32)).toInt - (x1_2).toInt ≤ (nf : Int) → f5_hasVetoedDish_L2 S nf x1_2 k = res → va_P (dC, dI) vwCl (wSt cI aS S) H1 → va_D (fun _ => True) (wSt cI aS S) → va_S (a0 s.heap.size) s.heap H1 locs → ∀ (ls : Array Slot), lv_has ls 3 [(1, .int x1_2), (0, .ref (aS 0))] → W p l e (headSpec wsX5_hasVetoedDish rm_X5_hasVetoedDish).room s m ([.ref (aS 0)] : List Value).toArray below meth c H1 locs 0 0 (MQ below (q_X5_hasVetoedDish dC dI cI cZ cS aS res (a0 s.heap.size)) ([.ref (aS 0)] : List Value).toArray s 0 0 (a0 s.heap.size)) (F0 m 2 ls []) := by
    intro k hk nf
    induction nf with
    | zero =>
      intro x1_2 H1 locs hfu hR hP hD hS ls hl
      rw [f5_hasVetoedDish_L2] at hR
      refine lv_iload_n hx hb dX5_hasVetoedDish_2 rfl (lv_at hl 0 rfl) ?_
      refine lv_bipush (v := (84 : Int32)) hx hb dX5_hasVetoedDish_3 (by decide) ?_
      refine lv_icmp_ge (tgt := 41) hx hb dX5_hasVetoedDish_5 (by decide) (fun c_1 => ?_) (fun c_1 => ?_)
      · skip
        exact hk  _ _  hR hP hD hS ls (lv_sub hl [] rfl)
      · exact (fuel0 hfu c_1).elim
    | succ nf ih =>
      intro x1_2 H1 locs hfu hR hP hD hS ls hl
      rw [f5_hasVetoedDish_L2] at hR
      refine lv_iload_n hx hb dX5_hasVetoedDish_2 rfl (lv_at hl 0 rfl) ?_
      refine lv_bipush (v := (84 : Int32)) hx hb dX5_hasVetoedDish_3 (by decide) ?_
      refine lv_icmp_ge (tgt := 41) hx hb dX5_hasVetoedDish_5 (by decide) (fun c_2 => ?_) (fun c_2 => ?_)
      · rw [if_pos c_2] at hR
        exact hk  _ _  hR hP hD hS ls (lv_sub hl [] rfl)
      · rw [if_neg c_2] at hR
        have hfu := fuelS hfu c_2
        refine lv_aload_n hx hb dX5_hasVetoedDish_8 rfl (lv_at hl 1 rfl) ?_
        refine va_get (D := (dC, dI)) (ci := 5) (v := .ref (aS 11)) (C := RX5) (T := TX5) (N := 12) hx hb hts hin5 hown hK hP 0 rfl rfl 11 (by decide) (hw_ hts 1 rfl) (fun _ h9 => h9) rfl dX5_hasVetoedDish_9 ?_
        refine lv_iload_n hx hb dX5_hasVetoedDish_12 rfl (lv_at hl 0 rfl) ?_
        refine va_calli (va_runSN (As := [.ref (aS 11), .int x1_2]) (rest := []) ⟨hx, hb, hml, hown, hts⟩ (met_X6_at l dC dI cI cZ cS (aS 11) 84 (by decide) (S 11) H1.size x1_2) ⟨va_cnB 2 hts ggX5_hasVetoedDish_X6_at rfl rfl rfl (hN_1 hN) (hw_ hts 3 rfl) (by decide +kernel) ⟨Nat.le_of_ble_eq_true rfl, Nat.le_of_ble_eq_true rfl⟩, (hw_ hts 2 rfl), trivial⟩ (pS (wc := [((aS 11), .inl (cI, 84, .inl (S 11)))]) hK hP hD hN [10] rfl (by decide)) rfl rfl hl.1 rfl (lv_room (Nat.le_of_ble_eq_true rfl)) dX5_hasVetoedDish_13 ⟨Nat.zero_le _, Nat.zero_le _⟩) hS (fun q _ h => a0_in hS hA q h) (a0_in hS hA) (fun r3 u t H2 locs ht hvm hw hB hz1 hk1 hS => ?_)
        subst hw
        have hP := rdk hP hk1
        refine lv_topi (fun v4 hv4 => ?_)
        have hR := bd_n hv4 hR
        refine lv_istore_n (lv' := [(2, .int v4), (1, .int x1_2), (0, .ref (aS 0))]) hx hb dX5_hasVetoedDish_16 rfl hl (by decide) rfl (fun ls hl => ?_)
        refine lv_iload_n hx hb dX5_hasVetoedDish_17 rfl (lv_at hl 0 rfl) ?_
        refine lv_iconst (v := (-1 : Int32)) hx hb dX5_hasVetoedDish_18 (by decide) ?_
        refine lv_icmp_eq (tgt := 35) hx hb dX5_hasVetoedDish_19 (by decide) (fun c_5 => ?_) (fun c_5 => ?_)
        · rw [if_pos c_5] at hR
          refine lv_iinc (v := (x1_2 + 1)) (lv' := [(1, .int (x1_2 + 1)), (2, .int v4), (0, .ref (aS 0))]) hx hb dX5_hasVetoedDish_35 hl (k := 1) rfl rfl (by decide) rfl (fun ls hl => ?_)
          refine lv_goto (tgt := 2) hx hb dX5_hasVetoedDish_38 (by decide) ?_
          exact ih (x1_2 + 1) _ _ hfu hR hP hD hS ls (lv_sub hl [0, 2] rfl)
        · rw [if_neg c_5] at hR
          refine lv_aload_n hx hb dX5_hasVetoedDish_22 rfl (lv_at hl 2 rfl) ?_
          refine lv_iload_n hx hb dX5_hasVetoedDish_23 rfl (lv_at hl 1 rfl) ?_
          refine lv_iconst (v := (3 : Int32)) hx hb dX5_hasVetoedDish_24 (by decide) ?_
          refine lv_idiv hx hb dX5_hasVetoedDish_25 (by decide) ?_
          refine lv_iload_n hx hb dX5_hasVetoedDish_26 rfl (lv_at hl 0 rfl) ?_
          refine va_calli (va_runV (As := [.int (x1_2 / (3 : Int32)), .int v4]) (rest := []) ⟨hx, hb, hml, hown, hts⟩ (met_X5_isVetoed l dC dI cI cZ cS aS S H2.size (x1_2 / (3 : Int32)) v4) (cwV 2 hts gX5_hasVetoedDish_X5_isVetoed rfl rfl rfl (by decide +kernel) ⟨Nat.le_of_ble_eq_true rfl, Nat.le_of_ble_eq_true rfl⟩) (pV (wc := wSt cI aS S) (ci := 5) (q0 := 0) hK hP hD hN [0, 1, 2, 3, 4, 5, 6, 7, 8, 9, 10] rfl (by decide) rfl rfl) rfl rfl hl.1 rfl (lv_room (Nat.le_of_ble_eq_true rfl)) dX5_hasVetoedDish_27 ⟨Nat.zero_le _, Nat.zero_le _⟩) hS (fun q _ h => a0_in hS hA q h) (a0_in hS hA) (fun r6 u t H3 locs ht hvm hw hB hz1 hk1 hS => ?_)
          obtain ⟨hw, nb7⟩ := hw
          have hR := bd_n hw hR
          have hP := rdk hP hk1
          refine lv_if_eq (tgt := 35) hx hb dX5_hasVetoedDish_30 (by decide) (fun c_8 => ?_) (fun c_8 => ?_)
          · rw [if_pos c_8] at hR
            refine lv_iinc (v := (x1_2 + 1)) (lv' := [(1, .int (x1_2 + 1)), (2, .int v4), (0, .ref (aS 0))]) hx hb dX5_hasVetoedDish_35 hl (k := 1) rfl rfl (by decide) rfl (fun ls hl => ?_)
            refine lv_goto (tgt := 2) hx hb dX5_hasVetoedDish_38 (by decide) ?_
            exact ih (x1_2 + 1) _ _ hfu hR hP hD hS ls (lv_sub hl [0, 2] rfl)
          · rw [if_neg c_8] at hR
            refine lv_iconst (v := (1 : Int32)) hx hb dX5_hasVetoedDish_33 (by decide) ?_
            exact W.zret (v := (1 : Int32)) (ty := .boolean) hx hb hr rfl (fun t ht hW => ⟨⟨(1 : Int32), (), rfl, ⟨hR, rfl⟩, trivial⟩, hS.F ht⟩) hS.2.2 dX5_hasVetoedDish_34
  refine LOOP2 (0 : Int32) (fun H1 locs hR hP hD hS ls hl => ?_) 84 (0 : Int32) _ _ (by decide) hR hP hD hS ls (lv_sub hl [0, 1] rfl)
  try dsimp only at hR
  refine lv_iconst (v := (0 : Int32)) hx hb dX5_hasVetoedDish_41 (by decide) ?_
  exact W.zret (v := (0 : Int32)) (ty := .boolean) hx hb hr rfl (fun t ht hW => ⟨⟨(0 : Int32), (), rfl, ⟨hR, rfl⟩, trivial⟩, hS.F ht⟩) hS.2.2 dX5_hasVetoedDish_42
abbrev rm_X5_hasStrangeDish : Room := { frames := 1, cells := 0, slots := 0, locals := 21 }
abbrev q_X5_hasStrangeDish (dC : Nat → ClassId) (dI : Nat → Nat → Nat) (cI cZ cS : ClassId) (aS : Nat → Nat)  (res : Int32) (A : Nat → Prop) : Array Value → State → Outcome → State → Prop := va_Qi (fun (r : Int32) (u : Unit) => r = res ∧ narrow .boolean (.int r) = .int r) (fun _ _ => True) A
set_option maxHeartbeats 4000000 in
set_option maxRecDepth 100000 in
theorem met_X5_hasStrangeDish (l : Launch) (dC : Nat → ClassId) (dI : Nat → Nat → Nat) (cI cZ cS : ClassId) (aS : Nat → Nat) (S : Pic) (sz : Nat)  : Met l yX5_hasStrangeDish wsX5_hasStrangeDish rm_X5_hasStrangeDish (va_Pc [.ref (aS 0)] (pW (dC, dI) (tyS cI cZ cS) (wSt cI aS S) sz)) (q_X5_hasStrangeDish dC dI cI cZ cS aS (f5_hasStrangeDish S) (a0 sz)) 0 0 (a0 sz) := by
  refine Met.ofW (cc := cX5_hasStrangeDish) (maxL := 3) (ret := (some .boolean)) (by decide) rfl ?_
  intro p e s m args below meth c s₁ B hml hv
  obtain ⟨rfl, hsz, hP, hK, hD0, hN⟩ := hv
  have hx := B.exec
  have hb := B.bytes
  have hr := B.returns
  have hts := atoms_spec (ws := wsX5_hasStrangeDish) B.pre
  have hown : s.vm.findClass RX5 = some m.cls := findClass_of_methodNamed B.named
  have hlocks := B.notSynchronized
  subst hsz
  have hD := hD0
  have hA : ∀ q : Nat, s.heap.size ≤ q → a0 s.heap.size q := fun q h => Or.inr h
  have hS : va_S (a0 s.heap.size) s.heap s.heap [] := va_S.rf
  have hP : va_P (dC, dI) vwCl (wSt cI aS S) s.heap := hP
  generalize hR : f5_hasStrangeDish S = res
  rw [f5_hasStrangeDish] at hR
  have hin5 : ∀ w ∈ wsX50, w ∈ wsX5_hasStrangeDish := by decide +kernel
  have hl := lv_entry ([.ref (aS 0)]) (n := 3) (Nat.le_of_ble_eq_true rfl)
  rw [lg_entry_eq]
  generalize (lg_sl ([.ref (aS 0)]) ++ List.replicate (3 - (lg_sl ([.ref (aS 0)])).length) Slot.unset).toArray = ls at hl ⊢
  have hl : lv_has ls 3 [(0, .ref (aS 0))] := hl
  refine lv_iconst (v := (0 : Int32)) hx hb dX5_hasStrangeDish_0 (by decide) ?_
  refine lv_istore_n (lv' := [(1, .int (0 : Int32)), (0, .ref (aS 0))]) hx hb dX5_hasStrangeDish_1 rfl hl (by decide) rfl (fun ls hl => ?_)
  have LOOP2 : ∀ (k : Int32), (∀  (H1 : Heap) (locs : List Loc), k = res → va_P (dC, dI) vwCl (wSt cI aS S) H1 → va_D (fun _ => True) (wSt cI aS S) → va_S (a0 s.heap.size) s.heap H1 locs → ∀ (ls : Array Slot), lv_has ls 3 [] → W p l e (headSpec wsX5_hasStrangeDish rm_X5_hasStrangeDish).room s m ([.ref (aS 0)] : List Value).toArray below meth c H1 locs 0 0 (MQ below (q_X5_hasStrangeDish dC dI cI cZ cS aS res (a0 s.heap.size)) ([.ref (aS 0)] : List Value).toArray s 0 0 (a0 s.heap.size)) (F0 m 52 ls [])) → ∀ (nf : Nat) (x1_2 : Int32) (H1 : Heap) (locs : List Loc), ((84 : Int32)).toInt - (x1_2).toInt ≤ (nf : Int) → f5_hasStrangeDish_L2 S nf x1_2 k = res → va_P (dC, dI) vwCl (wSt cI aS S) H1 → va_D (fun _ => True) (wSt cI aS S) → va_S (a0 s.heap.size) s.heap H1 locs → ∀ (ls : Array Slot), lv_has ls 3 [(1, .int x1_2), (0, .ref (aS 0))] → W p l e (headSpec wsX5_hasStrangeDish rm_X5_hasStrangeDish).room s m ([.ref (aS 0)] : List Value).toArray below meth c H1 locs 0 0 (MQ below (q_X5_hasStrangeDish dC dI cI cZ cS aS res (a0 s.heap.size)) ([.ref (aS 0)] : List Value).toArray s 0 0 (a0 s.heap.size)) (F0 m 2 ls []) := by
    intro k hk nf
    induction nf with
    | zero =>
      intro x1_2 H1 locs hfu hR hP hD hS ls hl
      rw [f5_hasStrangeDish_L2] at hR
      refine lv_iload_n hx hb dX5_hasStrangeDish_2 rfl (lv_at hl 0 rfl) ?_
      refine lv_bipush (v := (84 : Int32)) hx hb dX5_hasStrangeDish_3 (by decide) ?_
      refine lv_icmp_ge (tgt := 52) hx hb dX5_hasStrangeDish_5 (by decide) (fun c_1 => ?_) (fun c_1 => ?_)
      · skip
        exact hk  _ _  hR hP hD hS ls (lv_sub hl [] rfl)
      · exact (fuel0 hfu c_1).elim
    | succ nf ih =>
      intro x1_2 H1 locs hfu hR hP hD hS ls hl
      rw [f5_hasStrangeDish_L2] at hR
      refine lv_iload_n hx hb dX5_hasStrangeDish_2 rfl (lv_at hl 0 rfl) ?_
      refine lv_bipush (v := (84 : Int32)) hx hb dX5_hasStrangeDish_3 (by decide) ?_
      refine lv_icmp_ge (tgt := 52) hx hb dX5_hasStrangeDish_5 (by decide) (fun c_2 => ?_) (fun c_2 => ?_)
      · rw [if_pos c_2] at hR
        exact hk  _ _  hR hP hD hS ls (lv_sub hl [] rfl)
      · rw [if_neg c_2] at hR
        have hfu := fuelS hfu c_2
        refine lv_aload_n hx hb dX5_hasStrangeDish_8 rfl (lv_at hl 1 rfl) ?_
        refine va_get (D := (dC, dI)) (ci := 5) (v := .ref (aS 11)) (C := RX5) (T := TX5) (N := 12) hx hb hts hin5 hown hK hP 0 rfl rfl 11 (by decide) (hw_ hts 1 rfl) (fun _ h9 => h9) rfl dX5_hasStrangeDish_9 ?_
        refine lv_iload_n hx hb dX5_hasStrangeDish_12 rfl (lv_at hl 0 rfl) ?_
        refine va_calli (va_runSN (As := [.ref (aS 11), .int x1_2]) (rest := []) ⟨hx, hb, hml, hown, hts⟩ (met_X6_at l dC dI cI cZ cS (aS 11) 84 (by decide) (S 11) H1.size x1_2) ⟨va_cnB 2 hts ggX5_hasStrangeDish_X6_at rfl rfl rfl (hN_1 hN) (hw_ hts 4 rfl) (by decide +kernel) ⟨Nat.le_of_ble_eq_true rfl, Nat.le_of_ble_eq_true rfl⟩, (hw_ hts 3 rfl), trivial⟩ (pS (wc := [((aS 11), .inl (cI, 84, .inl (S 11)))]) hK hP hD hN [10] rfl (by decide)) rfl rfl hl.1 rfl (lv_room (Nat.le_of_ble_eq_true rfl)) dX5_hasStrangeDish_13 ⟨Nat.zero_le _, Nat.zero_le _⟩) hS (fun q _ h => a0_in hS hA q h) (a0_in hS hA) (fun r3 u t H2 locs ht hvm hw hB hz1 hk1 hS => ?_)
        subst hw
        have hP := rdk hP hk1
        refine lv_topi (fun v4 hv4 => ?_)
        have hR := bd_n hv4 hR
        refine lv_istore_n (lv' := [(2, .int v4), (1, .int x1_2), (0, .ref (aS 0))]) hx hb dX5_hasStrangeDish_16 rfl hl (by decide) rfl (fun ls hl => ?_)
        refine lv_iload_n hx hb dX5_hasStrangeDish_17 rfl (lv_at hl 0 rfl) ?_
        refine lv_iconst (v := (-1 : Int32)) hx hb dX5_hasStrangeDish_18 (by decide) ?_
        refine lv_icmp_eq (tgt := 46) hx hb dX5_hasStrangeDish_19 (by decide) (fun c_5 => ?_) (fun c_5 => ?_)
        · rw [if_pos c_5] at hR
          refine lv_iinc (v := (x1_2 + 1)) (lv' := [(1, .int (x1_2 + 1)), (2, .int v4), (0, .ref (aS 0))]) hx hb dX5_hasStrangeDish_46 hl (k := 1) rfl rfl (by decide) rfl (fun ls hl => ?_)
          refine lv_goto (tgt := 2) hx hb dX5_hasStrangeDish_49 (by decide) ?_
          exact ih (x1_2 + 1) _ _ hfu hR hP hD hS ls (lv_sub hl [0, 2] rfl)
        · rw [if_neg c_5] at hR
          refine lv_aload_n hx hb dX5_hasStrangeDish_22 rfl (lv_at hl 2 rfl) ?_
          refine lv_iload_n hx hb dX5_hasStrangeDish_23 rfl (lv_at hl 0 rfl) ?_
          refine va_calli (va_runV (As := [.int v4]) (rest := []) ⟨hx, hb, hml, hown, hts⟩ (met_X5_hasDish l dC dI cI cZ cS aS S H2.size v4) (cwV 1 hts gX5_hasStrangeDish_X5_hasDish rfl rfl rfl (by decide +kernel) ⟨Nat.le_of_ble_eq_true rfl, Nat.le_of_ble_eq_true rfl⟩) (pV (wc := wSt cI aS S) (ci := 5) (q0 := 0) hK hP hD hN [0, 1, 2, 3, 4, 5, 6, 7, 8, 9, 10] rfl (by decide) rfl rfl) rfl rfl hl.1 rfl (lv_room (Nat.le_of_ble_eq_true rfl)) dX5_hasStrangeDish_24 ⟨Nat.zero_le _, Nat.zero_le _⟩) hS (fun q _ h => a0_in hS hA q h) (a0_in hS hA) (fun r6 u t H3 locs ht hvm hw hB hz1 hk1 hS => ?_)
          obtain ⟨hw, nb7⟩ := hw
          subst hw
          have hP := rdk hP hk1
          refine lv_if_eq (tgt := 44) hx hb dX5_hasStrangeDish_27 (by decide) (fun c_8 => ?_) (fun c_8 => ?_)
          · rw [if_pos c_8] at hR
            refine lv_iconst (v := (1 : Int32)) hx hb dX5_hasStrangeDish_44 (by decide) ?_
            exact W.zret (v := (1 : Int32)) (ty := .boolean) hx hb hr rfl (fun t ht hW => ⟨⟨(1 : Int32), (), rfl, ⟨hR, rfl⟩, trivial⟩, hS.F ht⟩) hS.2.2 dX5_hasStrangeDish_45
          · rw [if_neg c_8] at hR
            refine lv_aload_n hx hb dX5_hasStrangeDish_30 rfl (lv_at hl 2 rfl) ?_
            refine va_get (D := (dC, dI)) (ci := 5) (v := .ref (aS 1)) (C := RX5) (T := TX5) (N := 12) hx hb hts hin5 hown hK hP 0 rfl rfl 1 (by decide) (hw_ hts 2 rfl) (fun _ h9 => h9) rfl dX5_hasStrangeDish_31 ?_
            refine lv_iload_n hx hb dX5_hasStrangeDish_34 rfl (lv_at hl 0 rfl) ?_
            refine va_calli (va_runSN (As := [.ref (aS 1), .int v4]) (rest := []) ⟨hx, hb, hml, hown, hts⟩ (met_X6_at l dC dI cI cZ cS (aS 1) 12 (by decide) (S 1) H3.size v4) ⟨va_cnB 2 hts ggX5_hasStrangeDish_X6_at rfl rfl rfl (hN_1 hN) (hw_ hts 4 rfl) (by decide +kernel) ⟨Nat.le_of_ble_eq_true rfl, Nat.le_of_ble_eq_true rfl⟩, (hw_ hts 3 rfl), trivial⟩ (pS (wc := [((aS 1), .inl (cI, 12, .inl (S 1)))]) hK hP hD hN [1] rfl (by decide)) rfl rfl hl.1 rfl (lv_room (Nat.le_of_ble_eq_true rfl)) dX5_hasStrangeDish_35 ⟨Nat.zero_le _, Nat.zero_le _⟩) hS (fun q _ h => a0_in hS hA q h) (a0_in hS hA) (fun r9 u t H4 locs ht hvm hw hB hz1 hk1 hS => ?_)
            subst hw
            have hP := rdk hP hk1
            refine lv_iload_n hx hb dX5_hasStrangeDish_38 rfl (lv_at hl 1 rfl) ?_
            refine lv_iconst (v := (3 : Int32)) hx hb dX5_hasStrangeDish_39 (by decide) ?_
            refine lv_irem hx hb dX5_hasStrangeDish_40 (by decide) ?_
            refine lv_icmp_eq (tgt := 46) hx hb dX5_hasStrangeDish_41 (by decide) (fun c_10 => ?_) (fun c_10 => ?_)
            · rw [if_pos c_10] at hR
              refine lv_iinc (v := (x1_2 + 1)) (lv' := [(1, .int (x1_2 + 1)), (2, .int v4), (0, .ref (aS 0))]) hx hb dX5_hasStrangeDish_46 hl (k := 1) rfl rfl (by decide) rfl (fun ls hl => ?_)
              refine lv_goto (tgt := 2) hx hb dX5_hasStrangeDish_49 (by decide) ?_
              exact ih (x1_2 + 1) _ _ hfu hR hP hD hS ls (lv_sub hl [0, 2] rfl)
            · rw [if_neg c_10] at hR
              refine lv_iconst (v := (1 : Int32)) hx hb dX5_hasStrangeDish_44 (by decide) ?_
              exact W.zret (v := (1 : Int32)) (ty := .boolean) hx hb hr rfl (fun t ht hW => ⟨⟨(1 : Int32), (), rfl, ⟨hR, rfl⟩, trivial⟩, hS.F ht⟩) hS.2.2 dX5_hasStrangeDish_45
  refine LOOP2 (0 : Int32) (fun H1 locs hR hP hD hS ls hl => ?_) 84 (0 : Int32) _ _ (by decide) hR hP hD hS ls (lv_sub hl [0, 1] rfl)
  try dsimp only at hR
  refine lv_iconst (v := (0 : Int32)) hx hb dX5_hasStrangeDish_52 (by decide) ?_
  exact W.zret (v := (0 : Int32)) (ty := .boolean) hx hb hr rfl (fun t ht hW => ⟨⟨(0 : Int32), (), rfl, ⟨hR, rfl⟩, trivial⟩, hS.F ht⟩) hS.2.2 dX5_hasStrangeDish_53
