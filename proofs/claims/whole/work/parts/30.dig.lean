abbrev rm_Jxe99ae_isNaN_b9ae7 : Room := { frames := 0, cells := 0, slots := 0, locals := 0 }
abbrev q_Jxe99ae_isNaN_b9ae7 (dC : Nat → ClassId) (dI : Nat → Nat → Nat) (cI cZ cS : ClassId)   (res : Int32) (A : Nat → Prop) : Array Value → State → Outcome → State → Prop := va_Qi (fun (r : Int32) (u : Unit) => r = res ∧ narrow .boolean (.int r) = .int r) (fun _ _ => True) A
set_option maxHeartbeats 4000000 in
set_option maxRecDepth 100000 in
theorem met_Jxe99ae_isNaN_b9ae7 (l : Launch) (dC : Nat → ClassId) (dI : Nat → Nat → Nat) (cI cZ cS : ClassId)  (sz : Nat) (p1 : UInt64) : Met l yJxe99ae_isNaN_b9ae7 wsJxe99ae_isNaN_b9ae7 rm_Jxe99ae_isNaN_b9ae7 (va_Pc [.double p1] (pW (dC, dI) (tyS cI cZ cS) ([]) sz)) (q_Jxe99ae_isNaN_b9ae7 dC dI cI cZ cS (fJxe99ae_isNaN_b9ae7 p1) (a0 sz)) 0 0 (a0 sz) := by
  refine Met.ofW (cc := cJxe99ae_isNaN_b9ae7) (maxL := 2) (ret := (some .boolean)) (by decide) rfl ?_
  intro p e s m args below meth c s₁ B hml hv
  obtain ⟨rfl, hsz, hP, hK, hD0, hN⟩ := hv
  have hx := B.exec
  have hb := B.bytes
  have hr := B.returns
  have hts := atoms_spec (ws := wsJxe99ae_isNaN_b9ae7) B.pre
  have hown : s.vm.findClass RJxe99ae = some m.cls := findClass_of_methodNamed B.named
  have hlocks := B.notSynchronized
  subst hsz
  have hD := hD0
  have hA : ∀ q : Nat, s.heap.size ≤ q → a0 s.heap.size q := fun q h => Or.inr h
  have hS : va_S (a0 s.heap.size) s.heap s.heap [] := va_S.rf
  have hP : va_P (dC, dI) vwCl ([]) s.heap := hP
  generalize hR : fJxe99ae_isNaN_b9ae7 p1 = res
  rw [fJxe99ae_isNaN_b9ae7] at hR
  have hl := lv_entry ([.double p1]) (n := 2) (Nat.le_of_ble_eq_true rfl)
  rw [lg_entry_eq]
  generalize (lg_sl ([.double p1]) ++ List.replicate (2 - (lg_sl ([.double p1])).length) Slot.unset).toArray = ls at hl ⊢
  have hl : lv_has ls 2 [(0, .double p1)] := hl
  refine lv_dload_n hx hb dJxe99ae_isNaN_b9ae7_0 rfl (lv_at hl 0 rfl) ?_
  refine lv_dload_n hx hb dJxe99ae_isNaN_b9ae7_1 rfl (lv_at hl 0 rfl) ?_
  refine lv_dcmp hx hb dJxe99ae_isNaN_b9ae7_2 ?_
  refine lv_if_eq (tgt := 10) hx hb dJxe99ae_isNaN_b9ae7_3 (by decide) (fun c_1 => ?_) (fun c_1 => ?_)
  · rw [if_pos c_1] at hR
    refine lv_iconst (v := (0 : Int32)) hx hb dJxe99ae_isNaN_b9ae7_10 (by decide) ?_
    exact W.zret (v := (0 : Int32)) (ty := .boolean) hx hb hr rfl (fun t ht hW => ⟨⟨(0 : Int32), (), rfl, ⟨hR, rfl⟩, trivial⟩, hS.F ht⟩) hS.2.2 dJxe99ae_isNaN_b9ae7_11
  · rw [if_neg c_1] at hR
    refine lv_iconst (v := (1 : Int32)) hx hb dJxe99ae_isNaN_b9ae7_6 (by decide) ?_
    refine lv_goto (tgt := 11) hx hb dJxe99ae_isNaN_b9ae7_7 (by decide) ?_
    exact W.zret (v := (1 : Int32)) (ty := .boolean) hx hb hr rfl (fun t ht hW => ⟨⟨(1 : Int32), (), rfl, ⟨hR, rfl⟩, trivial⟩, hS.F ht⟩) hS.2.2 dJxe99ae_isNaN_b9ae7_11
abbrev rm_Jxe99ae_doubleToLongBits_ccdee : Room := { frames := 1, cells := 0, slots := 0, locals := 30 }
abbrev q_Jxe99ae_doubleToLongBits_ccdee (dC : Nat → ClassId) (dI : Nat → Nat → Nat) (cI cZ cS : ClassId)   (res : Int64) (A : Nat → Prop) : Array Value → State → Outcome → State → Prop := va_Ql (fun (r : Int64) (u : Unit) => r = res) (fun _ _ => True) A
set_option maxHeartbeats 4000000 in
set_option maxRecDepth 100000 in
theorem met_Jxe99ae_doubleToLongBits_ccdee (l : Launch) (dC : Nat → ClassId) (dI : Nat → Nat → Nat) (cI cZ cS : ClassId)  (sz : Nat) (p1 : UInt64) : Met l yJxe99ae_doubleToLongBits_ccdee wsJxe99ae_doubleToLongBits_ccdee rm_Jxe99ae_doubleToLongBits_ccdee (va_Pc [.double p1] (pW (dC, dI) (tyS cI cZ cS) ([]) sz)) (q_Jxe99ae_doubleToLongBits_ccdee dC dI cI cZ cS (fJxe99ae_doubleToLongBits_ccdee p1) (a0 sz)) 0 0 (a0 sz) := by
  refine Met.ofW (cc := cJxe99ae_doubleToLongBits_ccdee) (maxL := 2) (ret := (some .long)) (by decide) rfl ?_
  intro p e s m args below meth c s₁ B hml hv
  obtain ⟨rfl, hsz, hP, hK, hD0, hN⟩ := hv
  have hx := B.exec
  have hb := B.bytes
  have hr := B.returns
  have hts := atoms_spec (ws := wsJxe99ae_doubleToLongBits_ccdee) B.pre
  have hown : s.vm.findClass RJxe99ae = some m.cls := findClass_of_methodNamed B.named
  have hlocks := B.notSynchronized
  subst hsz
  have hD := hD0
  have hA : ∀ q : Nat, s.heap.size ≤ q → a0 s.heap.size q := fun q h => Or.inr h
  have hS : va_S (a0 s.heap.size) s.heap s.heap [] := va_S.rf
  have hP : va_P (dC, dI) vwCl ([]) s.heap := hP
  generalize hR : fJxe99ae_doubleToLongBits_ccdee p1 = res
  rw [fJxe99ae_doubleToLongBits_ccdee] at hR
  have hl := lv_entry ([.double p1]) (n := 2) (Nat.le_of_ble_eq_true rfl)
  rw [lg_entry_eq]
  generalize (lg_sl ([.double p1]) ++ List.replicate (2 - (lg_sl ([.double p1])).length) Slot.unset).toArray = ls at hl ⊢
  have hl : lv_has ls 2 [(0, .double p1)] := hl
  refine lv_dload_n hx hb dJxe99ae_doubleToLongBits_ccdee_0 rfl (lv_at hl 0 rfl) ?_
  refine va_calli (va_runS (As := [.double p1]) (rest := []) ⟨hx, hb, hml, hown, hts⟩ (met_Jxe99ae_isNaN_b9ae7 l dC dI cI cZ cS s.heap.size p1) (va_cwS 1 hts gJxe99ae_doubleToLongBits_ccdee_Jxe99ae_isNaN_b9ae7 rfl rfl rfl (by decide +kernel) ⟨Nat.le_of_ble_eq_true rfl, Nat.le_of_ble_eq_true rfl⟩) (pS (wc := []) hK hP hD hN [] rfl (by decide)) rfl rfl hl.1 rfl (lv_room (Nat.le_of_ble_eq_true rfl)) dJxe99ae_doubleToLongBits_ccdee_1 ⟨Nat.zero_le _, Nat.zero_le _⟩) hS (fun q _ h => a0_in hS hA q h) (a0_in hS hA) (fun r1 u t H1 locs ht hvm hw hB hz1 hk1 hS => ?_)
  obtain ⟨hw, nb2⟩ := hw
  have hR := bd_n hw hR
  have hP := rdk hP hk1
  refine lv_if_ne (tgt := 12) hx hb dJxe99ae_doubleToLongBits_ccdee_4 (by decide) (fun c_3 => ?_) (fun c_3 => ?_)
  · rw [if_neg c_3] at hR
    refine lv_ldc2 (v := (9221120237041090560 : Int64)) hx hb hown (hw_ hts 5 rfl) dJxe99ae_doubleToLongBits_ccdee_12 ?_
    exact W.lret (v := (9221120237041090560 : Int64)) hx hb hr (fun t ht hW => ⟨⟨(9221120237041090560 : Int64), (), rfl, hR, trivial⟩, hS.F ht⟩) hS.2.2 dJxe99ae_doubleToLongBits_ccdee_15
  · rw [if_pos c_3] at hR
    refine lv_dload_n hx hb dJxe99ae_doubleToLongBits_ccdee_7 rfl (lv_at hl 0 rfl) ?_
    refine vn_d2l hx hb (hml.trans hl.1.symm) hown (hw_ hts 1 rfl) (hw_ hts 2 rfl) (hw_ hts 3 rfl) (hw_ hts 4 rfl) (Nat.le_of_ble_eq_true rfl) (Nat.le_of_ble_eq_true rfl) dJxe99ae_doubleToLongBits_ccdee_8 ?_
    exact W.lret (v := (p1).toInt64) hx hb hr (fun t ht hW => ⟨⟨(p1).toInt64, (), rfl, hR, trivial⟩, hS.F ht⟩) hS.2.2 dJxe99ae_doubleToLongBits_ccdee_11
abbrev rm_X7_used : Room := { frames := 6, cells := 0, slots := 0, locals := 138 }
abbrev q_X7_used (dC : Nat → ClassId) (dI : Nat → Nat → Nat) (cI cZ cS : ClassId) (aM : Nat → Nat) (hs : Int64) (res : UInt64 × Pic) (A : Nat → Prop) : Array Value → State → Outcome → State → Prop := va_Qd (fun (r : UInt64) (u : Pic) => (r, u) = res) (fun u t => va_P (dC, dI) vwCl (wMo cI aM u hs) t.heap) A
set_option maxHeartbeats 4000000 in
set_option maxRecDepth 100000 in
theorem met_X7_used (l : Launch) (dC : Nat → ClassId) (dI : Nat → Nat → Nat) (cI cZ cS : ClassId) (aM : Nat → Nat) (M : Pic) (hs : Int64) (sz : Nat)  (res : UInt64 × Pic) (hR : f7_used M = some res) : Met l yX7_used wsX7_used rm_X7_used (va_Pc [.ref (aM 0)] (pW (dC, dI) (tyS cI cZ cS) (wMo cI aM M hs) sz)) (q_X7_used dC dI cI cZ cS aM hs res (va_A (wMo cI aM M hs) sz)) 0 0 (va_A (wMo cI aM M hs) sz) := by
  refine Met.ofW (cc := cX7_used) (maxL := 2) (ret := (some .double)) (by decide) rfl ?_
  intro p e s m args below meth c s₁ B hml hv
  obtain ⟨rfl, hsz, hP, hK, hD0, hN⟩ := hv
  have hx := B.exec
  have hb := B.bytes
  have hr := B.returns
  have hts := atoms_spec (ws := wsX7_used) B.pre
  have hown : s.vm.findClass RX7 = some m.cls := findClass_of_methodNamed B.named
  have hlocks := B.notSynchronized
  subst hsz
  have hD := hD0.self (sz := s.heap.size)
  generalize hAe : va_A (wMo cI aM M hs) s.heap.size = A at hD ⊢
  have hA : ∀ q : Nat, s.heap.size ≤ q → A q := fun q h => by rw [← hAe]; exact Or.inr h
  have hS : va_S A s.heap s.heap [] := va_S.rf
  have hP : va_P (dC, dI) vwCl (wMo cI aM M hs) s.heap := hP
  rw [f7_used] at hR
  have hl := lv_entry ([.ref (aM 0)]) (n := 2) (Nat.le_of_ble_eq_true rfl)
  rw [lg_entry_eq]
  generalize (lg_sl ([.ref (aM 0)]) ++ List.replicate (2 - (lg_sl ([.ref (aM 0)])).length) Slot.unset).toArray = ls at hl ⊢
  have hl : lv_has ls 2 [(0, .ref (aM 0))] := hl
  refine lv_aload_n hx hb dX7_used_0 rfl (lv_at hl 0 rfl) ?_
  refine lv_iconst (v := (0 : Int32)) hx hb dX7_used_1 (by decide) ?_
  obtain ⟨r1, u2, hc3, hR⟩ := ob2_e hR
  have hF := va_free (wc := wMo cI aM M hs) hD hS hA [0, 1, 2, 3, 4, 5, 6, 7, 8] rfl
  refine va_calli (va_runV (As := [.int (0 : Int32)]) (rest := []) ⟨hx, hb, hml, hown, hts⟩ (met_X7_sources l dC dI cI cZ cS aM M hs s.heap.size (0 : Int32) (r1, u2) hc3) (cwV 1 hts gX7_used_X7_sources rfl rfl rfl (by decide +kernel) ⟨Nat.le_of_ble_eq_true rfl, Nat.le_of_ble_eq_true rfl⟩) (pV (wc := wMo cI aM M hs) (ci := 7) (q0 := 0) hK hP hD hN [0, 1, 2, 3, 4, 5, 6, 7, 8] rfl (by decide) rfl rfl) rfl rfl hl.1 rfl (lv_room (Nat.le_of_ble_eq_true rfl)) dX7_used_2 ⟨Nat.zero_le _, Nat.zero_le _⟩) hS (fun q _ h => hF q h) hF (fun r1 u2 t H1 locs ht hvm hw hB hz1 hk1 hS => ?_)
  try dsimp only at hw hB
  rw [ht] at hB
  cases hw
  have hP := wrk (w2 := wMo cI aM u2 hs) hP hD [0, 1, 2, 3, 4, 5, 6, 7, 8] rfl (by decide) hk1 hB rfl rfl
  have hD := D_addr (w1 := wMo cI aM u2 hs) hD rfl
  refine lv_istore_n (lv' := [(1, .int r1), (0, .ref (aM 0))]) hx hb dX7_used_5 rfl hl (by decide) rfl (fun ls hl => ?_)
  refine lv_iload_n hx hb dX7_used_6 rfl (lv_at hl 0 rfl) ?_
  refine lv_if_ne (tgt := 14) hx hb dX7_used_7 (by decide) (fun c_4 => ?_) (fun c_4 => ?_)
  · rw [if_neg c_4] at hR
    refine lv_iload_n hx hb dX7_used_14 rfl (lv_at hl 0 rfl) ?_
    refine lv_aload_n hx hb dX7_used_15 rfl (lv_at hl 1 rfl) ?_
    refine lv_iconst (v := (1 : Int32)) hx hb dX7_used_16 (by decide) ?_
    obtain ⟨r5, u6, hc7, hR⟩ := ob2_e hR
    have hF := va_free (wc := wMo cI aM u2 hs) hD hS hA [0, 1, 2, 3, 4, 5, 6, 7, 8] rfl
    refine va_calli (va_runV (As := [.int (1 : Int32)]) (rest := [.int r1]) ⟨hx, hb, hml, hown, hts⟩ (met_X7_sources l dC dI cI cZ cS aM u2 hs H1.size (1 : Int32) (r5, u6) hc7) (cwV 1 hts gX7_used_X7_sources rfl rfl rfl (by decide +kernel) ⟨Nat.le_of_ble_eq_true rfl, Nat.le_of_ble_eq_true rfl⟩) (pV (wc := wMo cI aM u2 hs) (ci := 7) (q0 := 0) hK hP hD hN [0, 1, 2, 3, 4, 5, 6, 7, 8] rfl (by decide) rfl rfl) rfl rfl hl.1 rfl (lv_room (Nat.le_of_ble_eq_true rfl)) dX7_used_17 ⟨Nat.zero_le _, Nat.zero_le _⟩) hS (fun q _ h => hF q h) hF (fun r5 u6 t H2 locs ht hvm hw hB hz1 hk1 hS => ?_)
    try dsimp only at hw hB
    rw [ht] at hB
    cases hw
    have hP := wrk (w2 := wMo cI aM u6 hs) hP hD [0, 1, 2, 3, 4, 5, 6, 7, 8] rfl (by decide) hk1 hB rfl rfl
    have hD := D_addr (w1 := wMo cI aM u6 hs) hD rfl
    refine lv_isub hx hb dX7_used_20 ?_
    refine lv_i2d hx hb dX7_used_21 ?_
    refine lv_iload_n hx hb dX7_used_22 rfl (lv_at hl 0 rfl) ?_
    refine lv_i2d hx hb dX7_used_23 ?_
    obtain ⟨hne8, hR⟩ := ckn_some hR
    refine lv_ddiv hx hb dX7_used_24 hne8 ?_
    exact W.dret (v := (FP.ddiv (FP.i2d (r1 - r5)) (FP.i2d r1))) hx hb hr (fun t ht hW => ⟨⟨(FP.ddiv (FP.i2d (r1 - r5)) (FP.i2d r1)), u6, rfl, Option.some.inj hR, P_at ht hP⟩, hS.F ht⟩) hS.2.2 dX7_used_25
  · rw [if_pos c_4] at hR
    refine lv_dconst1 hx hb dX7_used_10 ?_
    refine lv_goto (tgt := 25) hx hb dX7_used_11 (by decide) ?_
    exact W.dret (v := FP.dconst1) hx hb hr (fun t ht hW => ⟨⟨FP.dconst1, u2, rfl, Option.some.inj hR, P_at ht hP⟩, hS.F ht⟩) hS.2.2 dX7_used_25
abbrev rm_X7_usedShare : Room := { frames := 7, cells := 0, slots := 0, locals := 159 }
abbrev q_X7_usedShare (dC : Nat → ClassId) (dI : Nat → Nat → Nat) (cI cZ cS : ClassId) (aM : Nat → Nat) (hs : Int64) (res : UInt64 × Pic) (A : Nat → Prop) : Array Value → State → Outcome → State → Prop := va_Qd (fun (r : UInt64) (u : Pic) => (r, u) = res) (fun u t => va_P (dC, dI) vwCl (wMo cI aM u hs) t.heap) A
set_option maxHeartbeats 4000000 in
set_option maxRecDepth 100000 in
theorem met_X7_usedShare (l : Launch) (dC : Nat → ClassId) (dI : Nat → Nat → Nat) (cI cZ cS : ClassId) (aM : Nat → Nat) (M : Pic) (hs : Int64) (sz : Nat)  (res : UInt64 × Pic) (hR : f7_usedShare M = some res) : Met l yX7_usedShare wsX7_usedShare rm_X7_usedShare (va_Pc [.ref (aM 0)] (pW (dC, dI) (tyS cI cZ cS) (wMo cI aM M hs) sz)) (q_X7_usedShare dC dI cI cZ cS aM hs res (va_A (wMo cI aM M hs) sz)) 0 0 (va_A (wMo cI aM M hs) sz) := by
  refine Met.ofW (cc := cX7_usedShare) (maxL := 1) (ret := (some .double)) (by decide) rfl ?_
  intro p e s m args below meth c s₁ B hml hv
  obtain ⟨rfl, hsz, hP, hK, hD0, hN⟩ := hv
  have hx := B.exec
  have hb := B.bytes
  have hr := B.returns
  have hts := atoms_spec (ws := wsX7_usedShare) B.pre
  have hown : s.vm.findClass RX7 = some m.cls := findClass_of_methodNamed B.named
  have hlocks := B.notSynchronized
  subst hsz
  have hD := hD0.self (sz := s.heap.size)
  generalize hAe : va_A (wMo cI aM M hs) s.heap.size = A at hD ⊢
  have hA : ∀ q : Nat, s.heap.size ≤ q → A q := fun q h => by rw [← hAe]; exact Or.inr h
  have hS : va_S A s.heap s.heap [] := va_S.rf
  have hP : va_P (dC, dI) vwCl (wMo cI aM M hs) s.heap := hP
  rw [f7_usedShare] at hR
  have hin7 : ∀ w ∈ wsX70, w ∈ wsX7_usedShare := by decide +kernel
  have hl := lv_entry ([.ref (aM 0)]) (n := 1) (Nat.le_of_ble_eq_true rfl)
  rw [lg_entry_eq]
  generalize (lg_sl ([.ref (aM 0)]) ++ List.replicate (1 - (lg_sl ([.ref (aM 0)])).length) Slot.unset).toArray = ls at hl ⊢
  have hl : lv_has ls 1 [(0, .ref (aM 0))] := hl
  refine lv_aload_n hx hb dX7_usedShare_0 rfl (lv_at hl 0 rfl) ?_
  refine lv_iconst (v := (0 : Int32)) hx hb dX7_usedShare_1 (by decide) ?_
  refine va_put (D := (dC, dI)) (ci := 7) (v := .int (0 : Int32)) (ty := .int) (C := RX7) (T := TX7) (N := 15) hx hb hts hin7 tyX7 tyX7_ok nmX7 hown hK hP hD hS 0 rfl rfl 7 (by decide) (hw_ hts 1 rfl) (fun _ h9 => h9) rfl (by decide +kernel) rfl rfl (Nat.le_of_ble_eq_true rfl) dX7_usedShare_2 (fun H1 locs hP hD hS => ?_)
  have hP : va_P (dC, dI) vwCl (wMo cI aM (pset M 7 (fun _ => (0 : Int32))) hs) H1 := hP
  have hD : va_D A (wMo cI aM (pset M 7 (fun _ => (0 : Int32))) hs) := hD
  refine lv_aload_n hx hb dX7_usedShare_5 rfl (lv_at hl 0 rfl) ?_
  obtain ⟨r1, u2, hc3, hR⟩ := ob2_e hR
  have hF := va_free (wc := wMo cI aM (pset M 7 (fun _ => (0 : Int32))) hs) hD hS hA [0, 1, 2, 3, 4, 5, 6, 7, 8] rfl
  refine va_calld (va_runV (As := []) (rest := []) ⟨hx, hb, hml, hown, hts⟩ (met_X7_used l dC dI cI cZ cS aM (pset M 7 (fun _ => (0 : Int32))) hs H1.size (r1, u2) hc3) (cwV 0 hts gX7_usedShare_X7_used rfl rfl rfl (by decide +kernel) ⟨Nat.le_of_ble_eq_true rfl, Nat.le_of_ble_eq_true rfl⟩) (pV (wc := wMo cI aM (pset M 7 (fun _ => (0 : Int32))) hs) (ci := 7) (q0 := 0) hK hP hD hN [0, 1, 2, 3, 4, 5, 6, 7, 8] rfl (by decide) rfl rfl) rfl rfl hl.1 rfl (lv_room (Nat.le_of_ble_eq_true rfl)) dX7_usedShare_6 ⟨Nat.zero_le _, Nat.zero_le _⟩) hS (fun q _ h => hF q h) hF (fun r1 u2 t H2 locs ht hvm hw hB hz1 hk1 hS => ?_)
  try dsimp only at hw hB
  rw [ht] at hB
  cases hw
  have hP := wrk (w2 := wMo cI aM u2 hs) hP hD [0, 1, 2, 3, 4, 5, 6, 7, 8] rfl (by decide) hk1 hB rfl rfl
  have hD := D_addr (w1 := wMo cI aM u2 hs) hD rfl
  exact W.dret (v := r1) hx hb hr (fun t ht hW => ⟨⟨r1, u2, rfl, Option.some.inj hR, P_at ht hP⟩, hS.F ht⟩) hS.2.2 dX7_usedShare_9
abbrev rm_X7_mix : Room := { frames := 0, cells := 0, slots := 0, locals := 0 }
abbrev q_X7_mix (dC : Nat → ClassId) (dI : Nat → Nat → Nat) (cI cZ cS : ClassId) (aM : Nat → Nat) (M : Pic) (res : Int64) (A : Nat → Prop) : Array Value → State → Outcome → State → Prop := va_Qv (fun (u : Int64) => u = res) (fun u t => va_P (dC, dI) vwCl (wMo cI aM M u) t.heap) A
set_option maxHeartbeats 4000000 in
set_option maxRecDepth 100000 in
theorem met_X7_mix (l : Launch) (dC : Nat → ClassId) (dI : Nat → Nat → Nat) (cI cZ cS : ClassId) (aM : Nat → Nat) (M : Pic) (hs : Int64) (sz : Nat) (p1 : Int64) : Met l yX7_mix wsX7_mix rm_X7_mix (va_Pc [.ref (aM 0), .long p1] (pW (dC, dI) (tyS cI cZ cS) (wMo cI aM M hs) sz)) (q_X7_mix dC dI cI cZ cS aM M (f7_mix hs p1) (va_A (wMo cI aM M hs) sz)) 0 0 (va_A (wMo cI aM M hs) sz) := by
  refine Met.ofW (cc := cX7_mix) (maxL := 3) (ret := none) (by decide) rfl ?_
  intro p e s m args below meth c s₁ B hml hv
  obtain ⟨rfl, hsz, hP, hK, hD0, hN⟩ := hv
  have hx := B.exec
  have hb := B.bytes
  have hr := B.returns
  have hts := atoms_spec (ws := wsX7_mix) B.pre
  have hown : s.vm.findClass RX7 = some m.cls := findClass_of_methodNamed B.named
  have hlocks := B.notSynchronized
  subst hsz
  have hD := hD0.self (sz := s.heap.size)
  generalize hAe : va_A (wMo cI aM M hs) s.heap.size = A at hD ⊢
  have hA : ∀ q : Nat, s.heap.size ≤ q → A q := fun q h => by rw [← hAe]; exact Or.inr h
  have hS : va_S A s.heap s.heap [] := va_S.rf
  have hP : va_P (dC, dI) vwCl (wMo cI aM M hs) s.heap := hP
  generalize hR : f7_mix hs p1 = res
  rw [f7_mix] at hR
  have hin7 : ∀ w ∈ wsX70, w ∈ wsX7_mix := by decide +kernel
  have hl := lv_entry ([.ref (aM 0), .long p1]) (n := 3) (Nat.le_of_ble_eq_true rfl)
  rw [lg_entry_eq]
  generalize (lg_sl ([.ref (aM 0), .long p1]) ++ List.replicate (3 - (lg_sl ([.ref (aM 0), .long p1])).length) Slot.unset).toArray = ls at hl ⊢
  have hl : lv_has ls 3 [(0, .ref (aM 0)), (1, .long p1)] := hl
  refine lv_aload_n hx hb dX7_mix_0 rfl (lv_at hl 0 rfl) ?_
  refine lv_ldc2 (v := (31 : Int64)) hx hb hown (hw_ hts 1 rfl) dX7_mix_1 ?_
  refine lv_aload_n hx hb dX7_mix_4 rfl (lv_at hl 0 rfl) ?_
  refine va_get (D := (dC, dI)) (ci := 7) (v := .long hs) (C := RX7) (T := TX7) (N := 15) hx hb hts hin7 hown hK hP 0 rfl rfl 14 (by decide) (hw_ hts 2 rfl) (fun _ h9 => h9) rfl dX7_mix_5 ?_
  refine lv_lmul hx hb dX7_mix_8 ?_
  refine lv_lload_n hx hb dX7_mix_9 rfl (lv_at hl 1 rfl) ?_
  refine lv_ladd hx hb dX7_mix_10 ?_
  refine va_put (D := (dC, dI)) (ci := 7) (v := .long (((31 : Int64) * hs) + p1)) (ty := .long) (C := RX7) (T := TX7) (N := 15) hx hb hts hin7 tyX7 tyX7_ok nmX7 hown hK hP hD hS 0 rfl rfl 14 (by decide) (hw_ hts 2 rfl) (fun _ h9 => h9) rfl (by decide +kernel) rfl rfl (Nat.le_of_ble_eq_true rfl) dX7_mix_11 (fun H1 locs hP hD hS => ?_)
  have hP : va_P (dC, dI) vwCl (wMo cI aM M (((31 : Int64) * hs) + p1)) H1 := hP
  have hD : va_D A (wMo cI aM M (((31 : Int64) * hs) + p1)) := hD
  exact W.vret hx hb hr (fun t ht hW => ⟨⟨(((31 : Int64) * hs) + p1), rfl, hR, P_at ht hP⟩, hS.F ht⟩) hS.2.2 dX7_mix_14
abbrev rm_X7_mixDay : Room := { frames := 8, cells := 0, slots := 0, locals := 187 }
abbrev q_X7_mixDay (dC : Nat → ClassId) (dI : Nat → Nat → Nat) (cI cZ cS : ClassId) (aM : Nat → Nat)  (res : Pic × Int64) (A : Nat → Prop) : Array Value → State → Outcome → State → Prop := va_Qv (fun (u : Pic × Int64) => u = res) (fun u t => va_P (dC, dI) vwCl (wMo cI aM u.1 u.2) t.heap) A
set_option maxHeartbeats 4000000 in
set_option maxRecDepth 100000 in
theorem met_X7_mixDay (l : Launch) (dC : Nat → ClassId) (dI : Nat → Nat → Nat) (cI cZ cS : ClassId) (aM : Nat → Nat) (M : Pic) (hs : Int64) (sz : Nat) (p1 : Int32) (res : Pic × Int64) (hR : f7_mixDay M hs p1 = some res) : Met l yX7_mixDay wsX7_mixDay rm_X7_mixDay (va_Pc [.ref (aM 0), .int p1] (pW (dC, dI) (tyS cI cZ cS) (wMo cI aM M hs) sz)) (q_X7_mixDay dC dI cI cZ cS aM res (va_A (wMo cI aM M hs) sz)) 0 0 (va_A (wMo cI aM M hs) sz) := by
  refine Met.ofW (cc := cX7_mixDay) (maxL := 3) (ret := none) (by decide) rfl ?_
  intro p e s m args below meth c s₁ B hml hv
  obtain ⟨rfl, hsz, hP, hK, hD0, hN⟩ := hv
  have hx := B.exec
  have hb := B.bytes
  have hr := B.returns
  have hts := atoms_spec (ws := wsX7_mixDay) B.pre
  have hown : s.vm.findClass RX7 = some m.cls := findClass_of_methodNamed B.named
  have hlocks := B.notSynchronized
  subst hsz
  have hD := hD0.self (sz := s.heap.size)
  generalize hAe : va_A (wMo cI aM M hs) s.heap.size = A at hD ⊢
  have hA : ∀ q : Nat, s.heap.size ≤ q → A q := fun q h => by rw [← hAe]; exact Or.inr h
  have hS : va_S A s.heap s.heap [] := va_S.rf
  have hP : va_P (dC, dI) vwCl (wMo cI aM M hs) s.heap := hP
  rw [f7_mixDay] at hR
  have hl := lv_entry ([.ref (aM 0), .int p1]) (n := 3) (Nat.le_of_ble_eq_true rfl)
  rw [lg_entry_eq]
  generalize (lg_sl ([.ref (aM 0), .int p1]) ++ List.replicate (3 - (lg_sl ([.ref (aM 0), .int p1])).length) Slot.unset).toArray = ls at hl ⊢
  have hl : lv_has ls 3 [(0, .ref (aM 0)), (1, .int p1)] := hl
  refine lv_iconst (v := (0 : Int32)) hx hb dX7_mixDay_0 (by decide) ?_
  refine lv_istore_n (lv' := [(2, .int (0 : Int32)), (0, .ref (aM 0)), (1, .int p1)]) hx hb dX7_mixDay_1 rfl hl (by decide) rfl (fun ls hl => ?_)
  have LOOP2 : ∀ (k : Int64 → (Option (Pic × Int64))), (∀ (hs_2 : Int64) (H1 : Heap) (locs : List Loc), k hs_2 = some res → va_P (dC, dI) vwCl (wMo cI aM M hs_2) H1 → va_D A (wMo cI aM M hs_2) → va_S A s.heap H1 locs → ∀ (ls : Array Slot), lv_has ls 3 [(0, .ref (aM 0)), (1, .int p1)] → W p l e (headSpec wsX7_mixDay rm_X7_mixDay).room s m ([.ref (aM 0), .int p1] : List Value).toArray below meth c H1 locs 0 0 (MQ below (q_X7_mixDay dC dI cI cZ cS aM res A) ([.ref (aM 0), .int p1] : List Value).toArray s 0 0 A) (F0 m 24 ls [])) → ∀ (nf : Nat) (x2_2 : Int32) (hs_2 : Int64) (H1 : Heap) (locs : List Loc), ((5 : Int32)).toInt - (x2_2).toInt ≤ (nf : Int) → f7_mixDay_L2 M p1 nf x2_2 hs_2 k = some res → va_P (dC, dI) vwCl (wMo cI aM M hs_2) H1 → va_D A (wMo cI aM M hs_2) → va_S A s.heap H1 locs → ∀ (ls : Array Slot), lv_has ls 3 [(2, .int x2_2), (0, .ref (aM 0)), (1, .int p1)] → W p l e (headSpec wsX7_mixDay rm_X7_mixDay).room s m ([.ref (aM 0), .int p1] : List Value).toArray below meth c H1 locs 0 0 (MQ below (q_X7_mixDay dC dI cI cZ cS aM res A) ([.ref (aM 0), .int p1] : List Value).toArray s 0 0 A) (F0 m 2 ls []) := by
    intro k hk nf
    induction nf with
    | zero =>
      intro x2_2 hs_2 H1 locs hfu hR hP hD hS ls hl
      rw [f7_mixDay_L2] at hR
      refine lv_iload_n hx hb dX7_mixDay_2 rfl (lv_at hl 0 rfl) ?_
      refine lv_iconst (v := (5 : Int32)) hx hb dX7_mixDay_3 (by decide) ?_
      refine lv_icmp_ge (tgt := 24) hx hb dX7_mixDay_4 (by decide) (fun c_1 => ?_) (fun c_1 => ?_)
      · skip
        exact hk hs_2 _ _  hR hP hD hS ls (lv_sub hl [1, 2] rfl)
      · exact (fuel0 hfu c_1).elim
    | succ nf ih =>
      intro x2_2 hs_2 H1 locs hfu hR hP hD hS ls hl
      rw [f7_mixDay_L2] at hR
      refine lv_iload_n hx hb dX7_mixDay_2 rfl (lv_at hl 0 rfl) ?_
      refine lv_iconst (v := (5 : Int32)) hx hb dX7_mixDay_3 (by decide) ?_
      refine lv_icmp_ge (tgt := 24) hx hb dX7_mixDay_4 (by decide) (fun c_2 => ?_) (fun c_2 => ?_)
      · rw [if_pos c_2] at hR
        exact hk hs_2 _ _  hR hP hD hS ls (lv_sub hl [1, 2] rfl)
      · rw [if_neg c_2] at hR
        have hfu := fuelS hfu c_2
        refine lv_aload_n hx hb dX7_mixDay_7 rfl (lv_at hl 1 rfl) ?_
        refine lv_aload_n hx hb dX7_mixDay_8 rfl (lv_at hl 1 rfl) ?_
        refine lv_iload_n hx hb dX7_mixDay_9 rfl (lv_at hl 2 rfl) ?_
        refine lv_iload_n hx hb dX7_mixDay_10 rfl (lv_at hl 0 rfl) ?_
        obtain ⟨r3, hc4, hR⟩ := ob1_e hR
        refine va_calli (va_runV (As := [.int p1, .int x2_2]) (rest := [.ref (aM 0)]) ⟨hx, hb, hml, hown, hts⟩ (met_X7_dayNow l dC dI cI cZ cS aM M hs_2 H1.size p1 x2_2 r3 hc4) (cwV 2 hts gX7_mixDay_X7_dayNow rfl rfl rfl (by decide +kernel) ⟨Nat.le_of_ble_eq_true rfl, Nat.le_of_ble_eq_true rfl⟩) (pV (wc := wMo cI aM M hs_2) (ci := 7) (q0 := 0) hK hP hD hN [0, 1, 2, 3, 4, 5, 6, 7, 8] rfl (by decide) rfl rfl) rfl rfl hl.1 rfl (lv_room (Nat.le_of_ble_eq_true rfl)) dX7_mixDay_11 ⟨Nat.zero_le _, Nat.zero_le _⟩) hS (fun q _ h => a0_in hS hA q h) (a0_in hS hA) (fun r3 u t H2 locs ht hvm hw hB hz1 hk1 hS => ?_)
        cases hw
        have hP := rdk hP hk1
        refine lv_i2l (v := (r3).toInt64) hx hb dX7_mixDay_14 rfl ?_
        have hF := va_free (wc := wMo cI aM M hs_2) hD hS hA [0, 1, 2, 3, 4, 5, 6, 7, 8] rfl
        refine va_callv (va_runV (As := [.long (r3).toInt64]) (rest := []) ⟨hx, hb, hml, hown, hts⟩ (met_X7_mix l dC dI cI cZ cS aM M hs_2 H2.size ((r3).toInt64)) (cwV 1 hts gX7_mixDay_X7_mix rfl rfl rfl (by decide +kernel) ⟨Nat.le_of_ble_eq_true rfl, Nat.le_of_ble_eq_true rfl⟩) (pV (wc := wMo cI aM M hs_2) (ci := 7) (q0 := 0) hK hP hD hN [0, 1, 2, 3, 4, 5, 6, 7, 8] rfl (by decide) rfl rfl) rfl rfl hl.1 rfl (lv_room (Nat.le_of_ble_eq_true rfl)) dX7_mixDay_15 ⟨Nat.zero_le _, Nat.zero_le _⟩) hS (fun q _ h => hF q h) hF (fun  u5 t H3 locs ht hvm hw hB hz1 hk1 hS => ?_)
        try dsimp only at hw hB
        rw [ht] at hB
        have hR := bd_n hw hR
        have hP := wrk (w2 := wMo cI aM M u5) hP hD [0, 1, 2, 3, 4, 5, 6, 7, 8] rfl (by decide) hk1 hB rfl rfl
        have hD := D_addr (w1 := wMo cI aM M u5) hD rfl
        refine lv_iinc (v := (x2_2 + 1)) (lv' := [(2, .int (x2_2 + 1)), (0, .ref (aM 0)), (1, .int p1)]) hx hb dX7_mixDay_18 hl (k := 0) rfl rfl (by decide) rfl (fun ls hl => ?_)
        refine lv_goto (tgt := 2) hx hb dX7_mixDay_21 (by decide) ?_
        exact ih (x2_2 + 1) u5 _ _ hfu hR hP hD hS ls (lv_sub hl [0, 1, 2] rfl)
  refine LOOP2 (fun hs_2 => (f7_mixDay_L26 p1 3 (0 : Int32) M hs_2 (fun M_26 hs_26 => (some (M_26, hs_26))))) (fun hs_2 H1 locs hR hP hD hS ls hl => ?_) 5 (0 : Int32) hs _ _ (by decide) hR hP hD hS ls (lv_sub hl [0, 1, 2] rfl)
  try dsimp only at hR
  refine lv_iconst (v := (0 : Int32)) hx hb dX7_mixDay_24 (by decide) ?_
  refine lv_istore_n (lv' := [(2, .int (0 : Int32)), (0, .ref (aM 0)), (1, .int p1)]) hx hb dX7_mixDay_25 rfl hl (by decide) rfl (fun ls hl => ?_)
  have LOOP26 : ∀ (k : Pic → Int64 → (Option (Pic × Int64))), (∀ (M_26 : Pic) (hs_26 : Int64) (H2 : Heap) (locs : List Loc), k M_26 hs_26 = some res → va_P (dC, dI) vwCl (wMo cI aM M_26 hs_26) H2 → va_D A (wMo cI aM M_26 hs_26) → va_S A s.heap H2 locs → ∀ (ls : Array Slot), lv_has ls 3 [] → W p l e (headSpec wsX7_mixDay rm_X7_mixDay).room s m ([.ref (aM 0), .int p1] : List Value).toArray below meth c H2 locs 0 0 (MQ below (q_X7_mixDay dC dI cI cZ cS aM res A) ([.ref (aM 0), .int p1] : List Value).toArray s 0 0 A) (F0 m 70 ls [])) → ∀ (nf : Nat) (x2_26 : Int32) (M_26 : Pic) (hs_26 : Int64) (H2 : Heap) (locs : List Loc), ((3 : Int32)).toInt - (x2_26).toInt ≤ (nf : Int) → f7_mixDay_L26 p1 nf x2_26 M_26 hs_26 k = some res → va_P (dC, dI) vwCl (wMo cI aM M_26 hs_26) H2 → va_D A (wMo cI aM M_26 hs_26) → va_S A s.heap H2 locs → ∀ (ls : Array Slot), lv_has ls 3 [(2, .int x2_26), (0, .ref (aM 0)), (1, .int p1)] → W p l e (headSpec wsX7_mixDay rm_X7_mixDay).room s m ([.ref (aM 0), .int p1] : List Value).toArray below meth c H2 locs 0 0 (MQ below (q_X7_mixDay dC dI cI cZ cS aM res A) ([.ref (aM 0), .int p1] : List Value).toArray s 0 0 A) (F0 m 26 ls []) := by
    intro k hk nf
    induction nf with
    | zero =>
      intro x2_26 M_26 hs_26 H2 locs hfu hR hP hD hS ls hl
      rw [f7_mixDay_L26] at hR
      refine lv_iload_n hx hb dX7_mixDay_26 rfl (lv_at hl 0 rfl) ?_
      refine lv_iconst (v := (3 : Int32)) hx hb dX7_mixDay_27 (by decide) ?_
      refine lv_icmp_ge (tgt := 70) hx hb dX7_mixDay_28 (by decide) (fun c_6 => ?_) (fun c_6 => ?_)
      · skip
        exact hk M_26 hs_26 _ _  hR hP hD hS ls (lv_sub hl [] rfl)
      · exact (fuel0 hfu c_6).elim
    | succ nf ih =>
      intro x2_26 M_26 hs_26 H2 locs hfu hR hP hD hS ls hl
      rw [f7_mixDay_L26] at hR
      refine lv_iload_n hx hb dX7_mixDay_26 rfl (lv_at hl 0 rfl) ?_
      refine lv_iconst (v := (3 : Int32)) hx hb dX7_mixDay_27 (by decide) ?_
      refine lv_icmp_ge (tgt := 70) hx hb dX7_mixDay_28 (by decide) (fun c_7 => ?_) (fun c_7 => ?_)
      · rw [if_pos c_7] at hR
        exact hk M_26 hs_26 _ _  hR hP hD hS ls (lv_sub hl [] rfl)
      · rw [if_neg c_7] at hR
        have hfu := fuelS hfu c_7
        refine lv_aload_n hx hb dX7_mixDay_31 rfl (lv_at hl 1 rfl) ?_
        refine lv_aload_n hx hb dX7_mixDay_32 rfl (lv_at hl 1 rfl) ?_
        refine lv_iload_n hx hb dX7_mixDay_33 rfl (lv_at hl 2 rfl) ?_
        refine lv_iload_n hx hb dX7_mixDay_34 rfl (lv_at hl 0 rfl) ?_
        obtain ⟨r8, hc9, hR⟩ := ob1_e hR
        refine va_calli (va_runV (As := [.int p1, .int x2_26]) (rest := [.ref (aM 0)]) ⟨hx, hb, hml, hown, hts⟩ (met_X7_at l dC dI cI cZ cS aM M_26 hs_26 H2.size p1 x2_26 r8 hc9) (cwV 2 hts gX7_mixDay_X7_at rfl rfl rfl (by decide +kernel) ⟨Nat.le_of_ble_eq_true rfl, Nat.le_of_ble_eq_true rfl⟩) (pV (wc := wMo cI aM M_26 hs_26) (ci := 7) (q0 := 0) hK hP hD hN [0, 1, 2, 3, 4, 5, 6, 7, 8] rfl (by decide) rfl rfl) rfl rfl hl.1 rfl (lv_room (Nat.le_of_ble_eq_true rfl)) dX7_mixDay_35 ⟨Nat.zero_le _, Nat.zero_le _⟩) hS (fun q _ h => a0_in hS hA q h) (a0_in hS hA) (fun r8 u t H3 locs ht hvm hw hB hz1 hk1 hS => ?_)
        cases hw
        have hP := rdk hP hk1
        refine lv_i2l (v := (r8).toInt64) hx hb dX7_mixDay_38 rfl ?_
        have hF := va_free (wc := wMo cI aM M_26 hs_26) hD hS hA [0, 1, 2, 3, 4, 5, 6, 7, 8] rfl
        refine va_callv (va_runV (As := [.long (r8).toInt64]) (rest := []) ⟨hx, hb, hml, hown, hts⟩ (met_X7_mix l dC dI cI cZ cS aM M_26 hs_26 H3.size ((r8).toInt64)) (cwV 1 hts gX7_mixDay_X7_mix rfl rfl rfl (by decide +kernel) ⟨Nat.le_of_ble_eq_true rfl, Nat.le_of_ble_eq_true rfl⟩) (pV (wc := wMo cI aM M_26 hs_26) (ci := 7) (q0 := 0) hK hP hD hN [0, 1, 2, 3, 4, 5, 6, 7, 8] rfl (by decide) rfl rfl) rfl rfl hl.1 rfl (lv_room (Nat.le_of_ble_eq_true rfl)) dX7_mixDay_39 ⟨Nat.zero_le _, Nat.zero_le _⟩) hS (fun q _ h => hF q h) hF (fun  u10 t H4 locs ht hvm hw hB hz1 hk1 hS => ?_)
        try dsimp only at hw hB
        rw [ht] at hB
        have hR := bd_n hw hR
        have hP := wrk (w2 := wMo cI aM M_26 u10) hP hD [0, 1, 2, 3, 4, 5, 6, 7, 8] rfl (by decide) hk1 hB rfl rfl
        have hD := D_addr (w1 := wMo cI aM M_26 u10) hD rfl
        refine lv_aload_n hx hb dX7_mixDay_42 rfl (lv_at hl 1 rfl) ?_
        refine lv_aload_n hx hb dX7_mixDay_43 rfl (lv_at hl 1 rfl) ?_
        refine lv_iload_n hx hb dX7_mixDay_44 rfl (lv_at hl 2 rfl) ?_
        refine lv_iload_n hx hb dX7_mixDay_45 rfl (lv_at hl 0 rfl) ?_
        obtain ⟨r11, u12, hc13, hR⟩ := ob2_e hR
        have hF := va_free (wc := wMo cI aM M_26 u10) hD hS hA [0, 1, 2, 3, 4, 5, 6, 7, 8] rfl
        refine va_calli (va_runV (As := [.int p1, .int x2_26]) (rest := [.ref (aM 0)]) ⟨hx, hb, hml, hown, hts⟩ (met_X7_sourceNow l dC dI cI cZ cS aM M_26 u10 H4.size p1 x2_26 (r11, u12) hc13) (cwV 2 hts gX7_mixDay_X7_sourceNow rfl rfl rfl (by decide +kernel) ⟨Nat.le_of_ble_eq_true rfl, Nat.le_of_ble_eq_true rfl⟩) (pV (wc := wMo cI aM M_26 u10) (ci := 7) (q0 := 0) hK hP hD hN [0, 1, 2, 3, 4, 5, 6, 7, 8] rfl (by decide) rfl rfl) rfl rfl hl.1 rfl (lv_room (Nat.le_of_ble_eq_true rfl)) dX7_mixDay_46 ⟨Nat.zero_le _, Nat.zero_le _⟩) hS (fun q _ h => hF q h) hF (fun r11 u12 t H5 locs ht hvm hw hB hz1 hk1 hS => ?_)
        try dsimp only at hw hB
        rw [ht] at hB
        cases hw
        have hP := wrk (w2 := wMo cI aM u12 u10) hP hD [0, 1, 2, 3, 4, 5, 6, 7, 8] rfl (by decide) hk1 hB rfl rfl
        have hD := D_addr (w1 := wMo cI aM u12 u10) hD rfl
        refine lv_i2l (v := (r11).toInt64) hx hb dX7_mixDay_49 rfl ?_
        have hF := va_free (wc := wMo cI aM u12 u10) hD hS hA [0, 1, 2, 3, 4, 5, 6, 7, 8] rfl
        refine va_callv (va_runV (As := [.long (r11).toInt64]) (rest := []) ⟨hx, hb, hml, hown, hts⟩ (met_X7_mix l dC dI cI cZ cS aM u12 u10 H5.size ((r11).toInt64)) (cwV 1 hts gX7_mixDay_X7_mix rfl rfl rfl (by decide +kernel) ⟨Nat.le_of_ble_eq_true rfl, Nat.le_of_ble_eq_true rfl⟩) (pV (wc := wMo cI aM u12 u10) (ci := 7) (q0 := 0) hK hP hD hN [0, 1, 2, 3, 4, 5, 6, 7, 8] rfl (by decide) rfl rfl) rfl rfl hl.1 rfl (lv_room (Nat.le_of_ble_eq_true rfl)) dX7_mixDay_50 ⟨Nat.zero_le _, Nat.zero_le _⟩) hS (fun q _ h => hF q h) hF (fun  u14 t H6 locs ht hvm hw hB hz1 hk1 hS => ?_)
        try dsimp only at hw hB
        rw [ht] at hB
        have hR := bd_n hw hR
        have hP := wrk (w2 := wMo cI aM u12 u14) hP hD [0, 1, 2, 3, 4, 5, 6, 7, 8] rfl (by decide) hk1 hB rfl rfl
        have hD := D_addr (w1 := wMo cI aM u12 u14) hD rfl
        refine lv_aload_n hx hb dX7_mixDay_53 rfl (lv_at hl 1 rfl) ?_
        refine lv_aload_n hx hb dX7_mixDay_54 rfl (lv_at hl 1 rfl) ?_
        refine lv_iload_n hx hb dX7_mixDay_55 rfl (lv_at hl 2 rfl) ?_
        refine lv_iload_n hx hb dX7_mixDay_56 rfl (lv_at hl 0 rfl) ?_
        obtain ⟨r15, u16, hc17, hR⟩ := ob2_e hR
        have hF := va_free (wc := wMo cI aM u12 u14) hD hS hA [0, 1, 2, 3, 4, 5, 6, 7, 8] rfl
        refine va_calli (va_runV (As := [.int p1, .int x2_26]) (rest := [.ref (aM 0)]) ⟨hx, hb, hml, hown, hts⟩ (met_X7_bestFor l dC dI cI cZ cS aM u12 u14 H6.size p1 x2_26 (r15, u16) hc17) (cwV 2 hts gX7_mixDay_X7_bestFor rfl rfl rfl (by decide +kernel) ⟨Nat.le_of_ble_eq_true rfl, Nat.le_of_ble_eq_true rfl⟩) (pV (wc := wMo cI aM u12 u14) (ci := 7) (q0 := 0) hK hP hD hN [0, 1, 2, 3, 4, 5, 6, 7, 8] rfl (by decide) rfl rfl) rfl rfl hl.1 rfl (lv_room (Nat.le_of_ble_eq_true rfl)) dX7_mixDay_57 ⟨Nat.zero_le _, Nat.zero_le _⟩) hS (fun q _ h => hF q h) hF (fun r15 u16 t H7 locs ht hvm hw hB hz1 hk1 hS => ?_)
        try dsimp only at hw hB
        rw [ht] at hB
        cases hw
        have hP := wrk (w2 := wMo cI aM u16 u14) hP hD [0, 1, 2, 3, 4, 5, 6, 7, 8] rfl (by decide) hk1 hB rfl rfl
        have hD := D_addr (w1 := wMo cI aM u16 u14) hD rfl
        refine lv_i2l (v := (r15).toInt64) hx hb dX7_mixDay_60 rfl ?_
        have hF := va_free (wc := wMo cI aM u16 u14) hD hS hA [0, 1, 2, 3, 4, 5, 6, 7, 8] rfl
        refine va_callv (va_runV (As := [.long (r15).toInt64]) (rest := []) ⟨hx, hb, hml, hown, hts⟩ (met_X7_mix l dC dI cI cZ cS aM u16 u14 H7.size ((r15).toInt64)) (cwV 1 hts gX7_mixDay_X7_mix rfl rfl rfl (by decide +kernel) ⟨Nat.le_of_ble_eq_true rfl, Nat.le_of_ble_eq_true rfl⟩) (pV (wc := wMo cI aM u16 u14) (ci := 7) (q0 := 0) hK hP hD hN [0, 1, 2, 3, 4, 5, 6, 7, 8] rfl (by decide) rfl rfl) rfl rfl hl.1 rfl (lv_room (Nat.le_of_ble_eq_true rfl)) dX7_mixDay_61 ⟨Nat.zero_le _, Nat.zero_le _⟩) hS (fun q _ h => hF q h) hF (fun  u18 t H8 locs ht hvm hw hB hz1 hk1 hS => ?_)
        try dsimp only at hw hB
        rw [ht] at hB
        have hR := bd_n hw hR
        have hP := wrk (w2 := wMo cI aM u16 u18) hP hD [0, 1, 2, 3, 4, 5, 6, 7, 8] rfl (by decide) hk1 hB rfl rfl
        have hD := D_addr (w1 := wMo cI aM u16 u18) hD rfl
        refine lv_iinc (v := (x2_26 + 1)) (lv' := [(2, .int (x2_26 + 1)), (0, .ref (aM 0)), (1, .int p1)]) hx hb dX7_mixDay_64 hl (k := 0) rfl rfl (by decide) rfl (fun ls hl => ?_)
        refine lv_goto (tgt := 26) hx hb dX7_mixDay_67 (by decide) ?_
        exact ih (x2_26 + 1) u16 u18 _ _ hfu hR hP hD hS ls (lv_sub hl [0, 1, 2] rfl)
  refine LOOP26 (fun M_26 hs_26 => (some (M_26, hs_26))) (fun M_26 hs_26 H2 locs hR hP hD hS ls hl => ?_) 3 (0 : Int32) M hs_2 _ _ (by decide) hR hP hD hS ls (lv_sub hl [0, 1, 2] rfl)
  try dsimp only at hR
  exact W.vret hx hb hr (fun t ht hW => ⟨⟨(M_26, hs_26), rfl, Option.some.inj hR, P_at ht hP⟩, hS.F ht⟩) hS.2.2 dX7_mixDay_70
abbrev rm_X7_digest : Room := { frames := 9, cells := 0, slots := 0, locals := 210 }
abbrev q_X7_digest (dC : Nat → ClassId) (dI : Nat → Nat → Nat) (cI cZ cS : ClassId) (aM : Nat → Nat)  (res : Int64 × Pic × Int64) (A : Nat → Prop) : Array Value → State → Outcome → State → Prop := va_Ql (fun (r : Int64) (u : Pic × Int64) => (r, u) = res) (fun u t => va_P (dC, dI) vwCl (wMo cI aM u.1 u.2) t.heap) A
set_option maxHeartbeats 4000000 in
set_option maxRecDepth 100000 in
theorem met_X7_digest (l : Launch) (dC : Nat → ClassId) (dI : Nat → Nat → Nat) (cI cZ cS : ClassId) (aM : Nat → Nat) (M : Pic) (hs : Int64) (sz : Nat)  (res : Int64 × Pic × Int64) (hR : f7_digest M hs = some res) : Met l yX7_digest wsX7_digest rm_X7_digest (va_Pc [.ref (aM 0)] (pW (dC, dI) (tyS cI cZ cS) (wMo cI aM M hs) sz)) (q_X7_digest dC dI cI cZ cS aM res (va_A (wMo cI aM M hs) sz)) 0 0 (va_A (wMo cI aM M hs) sz) := by
  refine Met.ofW (cc := cX7_digest) (maxL := 3) (ret := (some .long)) (by decide) rfl ?_
  intro p e s m args below meth c s₁ B hml hv
  obtain ⟨rfl, hsz, hP, hK, hD0, hN⟩ := hv
  have hx := B.exec
  have hb := B.bytes
  have hr := B.returns
  have hts := atoms_spec (ws := wsX7_digest) B.pre
  have hown : s.vm.findClass RX7 = some m.cls := findClass_of_methodNamed B.named
  have hlocks := B.notSynchronized
  subst hsz
  have hD := hD0.self (sz := s.heap.size)
  generalize hAe : va_A (wMo cI aM M hs) s.heap.size = A at hD ⊢
  have hA : ∀ q : Nat, s.heap.size ≤ q → A q := fun q h => by rw [← hAe]; exact Or.inr h
  have hS : va_S A s.heap s.heap [] := va_S.rf
  have hP : va_P (dC, dI) vwCl (wMo cI aM M hs) s.heap := hP
  rw [f7_digest] at hR
  have hin7 : ∀ w ∈ wsX70, w ∈ wsX7_digest := by decide +kernel
  have hl := lv_entry ([.ref (aM 0)]) (n := 3) (Nat.le_of_ble_eq_true rfl)
  rw [lg_entry_eq]
  generalize (lg_sl ([.ref (aM 0)]) ++ List.replicate (3 - (lg_sl ([.ref (aM 0)])).length) Slot.unset).toArray = ls at hl ⊢
  have hl : lv_has ls 3 [(0, .ref (aM 0))] := hl
  refine lv_aload_n hx hb dX7_digest_0 rfl (lv_at hl 0 rfl) ?_
  refine lv_iconst (v := (0 : Int32)) hx hb dX7_digest_1 (by decide) ?_
  refine va_put (D := (dC, dI)) (ci := 7) (v := .int (0 : Int32)) (ty := .int) (C := RX7) (T := TX7) (N := 15) hx hb hts hin7 tyX7 tyX7_ok nmX7 hown hK hP hD hS 0 rfl rfl 7 (by decide) (hw_ hts 1 rfl) (fun _ h9 => h9) rfl (by decide +kernel) rfl rfl (Nat.le_of_ble_eq_true rfl) dX7_digest_2 (fun H1 locs hP hD hS => ?_)
  have hP : va_P (dC, dI) vwCl (wMo cI aM (pset M 7 (fun _ => (0 : Int32))) hs) H1 := hP
  have hD : va_D A (wMo cI aM (pset M 7 (fun _ => (0 : Int32))) hs) := hD
  refine lv_aload_n hx hb dX7_digest_5 rfl (lv_at hl 0 rfl) ?_
  refine lv_ldc2 (v := (2531 : Int64)) hx hb hown (hw_ hts 2 rfl) dX7_digest_6 ?_
  refine va_put (D := (dC, dI)) (ci := 7) (v := .long (2531 : Int64)) (ty := .long) (C := RX7) (T := TX7) (N := 15) hx hb hts hin7 tyX7 tyX7_ok nmX7 hown hK hP hD hS 0 rfl rfl 14 (by decide) (hw_ hts 3 rfl) (fun _ h9 => h9) rfl (by decide +kernel) rfl rfl (Nat.le_of_ble_eq_true rfl) dX7_digest_9 (fun H2 locs hP hD hS => ?_)
  have hP : va_P (dC, dI) vwCl (wMo cI aM (pset M 7 (fun _ => (0 : Int32))) (2531 : Int64)) H2 := hP
  have hD : va_D A (wMo cI aM (pset M 7 (fun _ => (0 : Int32))) (2531 : Int64)) := hD
  refine lv_iconst (v := (0 : Int32)) hx hb dX7_digest_12 (by decide) ?_
  refine lv_istore_n (lv' := [(1, .int (0 : Int32)), (0, .ref (aM 0))]) hx hb dX7_digest_13 rfl hl (by decide) rfl (fun ls hl => ?_)
  have LOOP14 : ∀ (k : Pic → Int64 → (Option (Int64 × Pic × Int64))), (∀ (M_14 : Pic) (hs_14 : Int64) (H3 : Heap) (locs : List Loc), k M_14 hs_14 = some res → va_P (dC, dI) vwCl (wMo cI aM M_14 hs_14) H3 → va_D A (wMo cI aM M_14 hs_14) → va_S A s.heap H3 locs → ∀ (ls : Array Slot), lv_has ls 3 [(0, .ref (aM 0))] → W p l e (headSpec wsX7_digest rm_X7_digest).room s m ([.ref (aM 0)] : List Value).toArray below meth c H3 locs 0 0 (MQ below (q_X7_digest dC dI cI cZ cS aM res A) ([.ref (aM 0)] : List Value).toArray s 0 0 A) (F0 m 36 ls [])) → ∀ (nf : Nat) (x1_14 : Int32) (M_14 : Pic) (hs_14 : Int64) (H3 : Heap) (locs : List Loc), ((14 : Int32)).toInt - (x1_14).toInt ≤ (nf : Int) → f7_digest_L14  nf x1_14 M_14 hs_14 k = some res → va_P (dC, dI) vwCl (wMo cI aM M_14 hs_14) H3 → va_D A (wMo cI aM M_14 hs_14) → va_S A s.heap H3 locs → ∀ (ls : Array Slot), lv_has ls 3 [(1, .int x1_14), (0, .ref (aM 0))] → W p l e (headSpec wsX7_digest rm_X7_digest).room s m ([.ref (aM 0)] : List Value).toArray below meth c H3 locs 0 0 (MQ below (q_X7_digest dC dI cI cZ cS aM res A) ([.ref (aM 0)] : List Value).toArray s 0 0 A) (F0 m 14 ls []) := by
    intro k hk nf
    induction nf with
    | zero =>
      intro x1_14 M_14 hs_14 H3 locs hfu hR hP hD hS ls hl
      rw [f7_digest_L14] at hR
      refine lv_iload_n hx hb dX7_digest_14 rfl (lv_at hl 0 rfl) ?_
      refine lv_bipush (v := (14 : Int32)) hx hb dX7_digest_15 (by decide) ?_
      refine lv_icmp_ge (tgt := 36) hx hb dX7_digest_17 (by decide) (fun c_1 => ?_) (fun c_1 => ?_)
      · skip
        exact hk M_14 hs_14 _ _  hR hP hD hS ls (lv_sub hl [1] rfl)
      · exact (fuel0 hfu c_1).elim
    | succ nf ih =>
      intro x1_14 M_14 hs_14 H3 locs hfu hR hP hD hS ls hl
      rw [f7_digest_L14] at hR
      refine lv_iload_n hx hb dX7_digest_14 rfl (lv_at hl 0 rfl) ?_
      refine lv_bipush (v := (14 : Int32)) hx hb dX7_digest_15 (by decide) ?_
      refine lv_icmp_ge (tgt := 36) hx hb dX7_digest_17 (by decide) (fun c_2 => ?_) (fun c_2 => ?_)
      · rw [if_pos c_2] at hR
        exact hk M_14 hs_14 _ _  hR hP hD hS ls (lv_sub hl [1] rfl)
      · rw [if_neg c_2] at hR
        have hfu := fuelS hfu c_2
        refine lv_aload_n hx hb dX7_digest_20 rfl (lv_at hl 1 rfl) ?_
        refine lv_aload_n hx hb dX7_digest_21 rfl (lv_at hl 1 rfl) ?_
        refine lv_iload_n hx hb dX7_digest_22 rfl (lv_at hl 0 rfl) ?_
        obtain ⟨r3, u4, hc5, hR⟩ := ob2_e hR
        have hF := va_free (wc := wMo cI aM M_14 hs_14) hD hS hA [0, 1, 2, 3, 4, 5, 6, 7, 8] rfl
        refine va_calli (va_runV (As := [.int x1_14]) (rest := [.ref (aM 0)]) ⟨hx, hb, hml, hown, hts⟩ (met_X7_counted l dC dI cI cZ cS aM M_14 hs_14 H3.size x1_14 (r3, u4) hc5) (cwV 1 hts gX7_digest_X7_counted rfl rfl rfl (by decide +kernel) ⟨Nat.le_of_ble_eq_true rfl, Nat.le_of_ble_eq_true rfl⟩) (pV (wc := wMo cI aM M_14 hs_14) (ci := 7) (q0 := 0) hK hP hD hN [0, 1, 2, 3, 4, 5, 6, 7, 8] rfl (by decide) rfl rfl) rfl rfl hl.1 rfl (lv_room (Nat.le_of_ble_eq_true rfl)) dX7_digest_23 ⟨Nat.zero_le _, Nat.zero_le _⟩) hS (fun q _ h => hF q h) hF (fun r3 u4 t H4 locs ht hvm hw hB hz1 hk1 hS => ?_)
        try dsimp only at hw hB
        rw [ht] at hB
        cases hw
        have hP := wrk (w2 := wMo cI aM u4 hs_14) hP hD [0, 1, 2, 3, 4, 5, 6, 7, 8] rfl (by decide) hk1 hB rfl rfl
        have hD := D_addr (w1 := wMo cI aM u4 hs_14) hD rfl
        refine lv_i2l (v := (r3).toInt64) hx hb dX7_digest_26 rfl ?_
        have hF := va_free (wc := wMo cI aM u4 hs_14) hD hS hA [0, 1, 2, 3, 4, 5, 6, 7, 8] rfl
        refine va_callv (va_runV (As := [.long (r3).toInt64]) (rest := []) ⟨hx, hb, hml, hown, hts⟩ (met_X7_mix l dC dI cI cZ cS aM u4 hs_14 H4.size ((r3).toInt64)) (cwV 1 hts gX7_digest_X7_mix rfl rfl rfl (by decide +kernel) ⟨Nat.le_of_ble_eq_true rfl, Nat.le_of_ble_eq_true rfl⟩) (pV (wc := wMo cI aM u4 hs_14) (ci := 7) (q0 := 0) hK hP hD hN [0, 1, 2, 3, 4, 5, 6, 7, 8] rfl (by decide) rfl rfl) rfl rfl hl.1 rfl (lv_room (Nat.le_of_ble_eq_true rfl)) dX7_digest_27 ⟨Nat.zero_le _, Nat.zero_le _⟩) hS (fun q _ h => hF q h) hF (fun  u6 t H5 locs ht hvm hw hB hz1 hk1 hS => ?_)
        try dsimp only at hw hB
        rw [ht] at hB
        have hR := bd_n hw hR
        have hP := wrk (w2 := wMo cI aM u4 u6) hP hD [0, 1, 2, 3, 4, 5, 6, 7, 8] rfl (by decide) hk1 hB rfl rfl
        have hD := D_addr (w1 := wMo cI aM u4 u6) hD rfl
        refine lv_iinc (v := (x1_14 + 1)) (lv' := [(1, .int (x1_14 + 1)), (0, .ref (aM 0))]) hx hb dX7_digest_30 hl (k := 0) rfl rfl (by decide) rfl (fun ls hl => ?_)
        refine lv_goto (tgt := 14) hx hb dX7_digest_33 (by decide) ?_
        exact ih (x1_14 + 1) u4 u6 _ _ hfu hR hP hD hS ls (lv_sub hl [0, 1] rfl)
  refine LOOP14 (fun M_14 hs_14 => (f7_digest_L38 M_14 3 (0 : Int32) hs_14 (fun hs_38 => (f7_digest_L62  13 (0 : Int32) M_14 hs_38 (fun M_62 hs_62 => (f7_digest_L115 M_62 (fuelN (0 : Int32) ((3 : Int32) * ((M_62 0) (ix (4 : Int32))))) (0 : Int32) hs_62 (fun hs_115 => (f7_digest_L150  28 (0 : Int32) M_62 hs_115 (fun M_150 hs_150 => (ob2 (f7_used M_150) (fun r32 u33 => (bd (fJxe99ae_doubleToLongBits_ccdee r32) (fun r35 => (bd (f7_mix hs_150 r35) (fun u36 => (bd (f7_mix u36 ((((u33 5) 0)).toInt64)) (fun u37 => (f7_digest_L189 u33 (fuelN (0 : Int32) ((u33 5) 0)) (0 : Int32) u37 (fun hs_189 => (some (hs_189, u33, hs_189))))))))))))))))))))) (fun M_14 hs_14 H3 locs hR hP hD hS ls hl => ?_) 14 (0 : Int32) (pset M 7 (fun _ => (0 : Int32))) (2531 : Int64) _ _ (by decide) hR hP hD hS ls (lv_sub hl [0, 1] rfl)
  try dsimp only at hR
  refine lv_iconst (v := (0 : Int32)) hx hb dX7_digest_36 (by decide) ?_
  refine lv_istore_n (lv' := [(1, .int (0 : Int32)), (0, .ref (aM 0))]) hx hb dX7_digest_37 rfl hl (by decide) rfl (fun ls hl => ?_)
  have LOOP38 : ∀ (k : Int64 → (Option (Int64 × Pic × Int64))), (∀ (hs_38 : Int64) (H4 : Heap) (locs : List Loc), k hs_38 = some res → va_P (dC, dI) vwCl (wMo cI aM M_14 hs_38) H4 → va_D A (wMo cI aM M_14 hs_38) → va_S A s.heap H4 locs → ∀ (ls : Array Slot), lv_has ls 3 [(0, .ref (aM 0))] → W p l e (headSpec wsX7_digest rm_X7_digest).room s m ([.ref (aM 0)] : List Value).toArray below meth c H4 locs 0 0 (MQ below (q_X7_digest dC dI cI cZ cS aM res A) ([.ref (aM 0)] : List Value).toArray s 0 0 A) (F0 m 60 ls [])) → ∀ (nf : Nat) (x1_38 : Int32) (hs_38 : Int64) (H4 : Heap) (locs : List Loc), ((3 : Int32)).toInt - (x1_38).toInt ≤ (nf : Int) → f7_digest_L38 M_14 nf x1_38 hs_38 k = some res → va_P (dC, dI) vwCl (wMo cI aM M_14 hs_38) H4 → va_D A (wMo cI aM M_14 hs_38) → va_S A s.heap H4 locs → ∀ (ls : Array Slot), lv_has ls 3 [(1, .int x1_38), (0, .ref (aM 0))] → W p l e (headSpec wsX7_digest rm_X7_digest).room s m ([.ref (aM 0)] : List Value).toArray below meth c H4 locs 0 0 (MQ below (q_X7_digest dC dI cI cZ cS aM res A) ([.ref (aM 0)] : List Value).toArray s 0 0 A) (F0 m 38 ls []) := by
    intro k hk nf
    induction nf with
    | zero =>
      intro x1_38 hs_38 H4 locs hfu hR hP hD hS ls hl
      rw [f7_digest_L38] at hR
      refine lv_iload_n hx hb dX7_digest_38 rfl (lv_at hl 0 rfl) ?_
      refine lv_iconst (v := (3 : Int32)) hx hb dX7_digest_39 (by decide) ?_
      refine lv_icmp_ge (tgt := 60) hx hb dX7_digest_40 (by decide) (fun c_7 => ?_) (fun c_7 => ?_)
      · skip
        exact hk hs_38 _ _  hR hP hD hS ls (lv_sub hl [1] rfl)
      · exact (fuel0 hfu c_7).elim
    | succ nf ih =>
      intro x1_38 hs_38 H4 locs hfu hR hP hD hS ls hl
      rw [f7_digest_L38] at hR
      refine lv_iload_n hx hb dX7_digest_38 rfl (lv_at hl 0 rfl) ?_
      refine lv_iconst (v := (3 : Int32)) hx hb dX7_digest_39 (by decide) ?_
      refine lv_icmp_ge (tgt := 60) hx hb dX7_digest_40 (by decide) (fun c_8 => ?_) (fun c_8 => ?_)
      · rw [if_pos c_8] at hR
        exact hk hs_38 _ _  hR hP hD hS ls (lv_sub hl [1] rfl)
      · rw [if_neg c_8] at hR
        have hfu := fuelS hfu c_8
        refine lv_aload_n hx hb dX7_digest_43 rfl (lv_at hl 1 rfl) ?_
        refine lv_aload_n hx hb dX7_digest_44 rfl (lv_at hl 1 rfl) ?_
        refine va_get (D := (dC, dI)) (ci := 7) (v := .ref (aM 1)) (C := RX7) (T := TX7) (N := 15) hx hb hts hin7 hown hK hP 0 rfl rfl 0 (by decide) (hw_ hts 4 rfl) (fun _ h9 => h9) rfl dX7_digest_45 ?_
        refine lv_iload_n hx hb dX7_digest_48 rfl (lv_at hl 0 rfl) ?_
        obtain ⟨hix9, hR⟩ := ck_some hR
        refine va_iald (f := (M_14 0)) hx hb hK hP 1 0 rfl rfl hix9 dX7_digest_49 ?_
        refine lv_i2l (v := (((M_14 0) (ix x1_38))).toInt64) hx hb dX7_digest_50 rfl ?_
        have hF := va_free (wc := wMo cI aM M_14 hs_38) hD hS hA [0, 1, 2, 3, 4, 5, 6, 7, 8] rfl
        refine va_callv (va_runV (As := [.long (((M_14 0) (ix x1_38))).toInt64]) (rest := []) ⟨hx, hb, hml, hown, hts⟩ (met_X7_mix l dC dI cI cZ cS aM M_14 hs_38 H4.size ((((M_14 0) (ix x1_38))).toInt64)) (cwV 1 hts gX7_digest_X7_mix rfl rfl rfl (by decide +kernel) ⟨Nat.le_of_ble_eq_true rfl, Nat.le_of_ble_eq_true rfl⟩) (pV (wc := wMo cI aM M_14 hs_38) (ci := 7) (q0 := 0) hK hP hD hN [0, 1, 2, 3, 4, 5, 6, 7, 8] rfl (by decide) rfl rfl) rfl rfl hl.1 rfl (lv_room (Nat.le_of_ble_eq_true rfl)) dX7_digest_51 ⟨Nat.zero_le _, Nat.zero_le _⟩) hS (fun q _ h => hF q h) hF (fun  u10 t H5 locs ht hvm hw hB hz1 hk1 hS => ?_)
        try dsimp only at hw hB
        rw [ht] at hB
        have hR := bd_n hw hR
        have hP := wrk (w2 := wMo cI aM M_14 u10) hP hD [0, 1, 2, 3, 4, 5, 6, 7, 8] rfl (by decide) hk1 hB rfl rfl
        have hD := D_addr (w1 := wMo cI aM M_14 u10) hD rfl
        refine lv_iinc (v := (x1_38 + 1)) (lv' := [(1, .int (x1_38 + 1)), (0, .ref (aM 0))]) hx hb dX7_digest_54 hl (k := 0) rfl rfl (by decide) rfl (fun ls hl => ?_)
        refine lv_goto (tgt := 38) hx hb dX7_digest_57 (by decide) ?_
        exact ih (x1_38 + 1) u10 _ _ hfu hR hP hD hS ls (lv_sub hl [0, 1] rfl)
  refine LOOP38 (fun hs_38 => (f7_digest_L62  13 (0 : Int32) M_14 hs_38 (fun M_62 hs_62 => (f7_digest_L115 M_62 (fuelN (0 : Int32) ((3 : Int32) * ((M_62 0) (ix (4 : Int32))))) (0 : Int32) hs_62 (fun hs_115 => (f7_digest_L150  28 (0 : Int32) M_62 hs_115 (fun M_150 hs_150 => (ob2 (f7_used M_150) (fun r32 u33 => (bd (fJxe99ae_doubleToLongBits_ccdee r32) (fun r35 => (bd (f7_mix hs_150 r35) (fun u36 => (bd (f7_mix u36 ((((u33 5) 0)).toInt64)) (fun u37 => (f7_digest_L189 u33 (fuelN (0 : Int32) ((u33 5) 0)) (0 : Int32) u37 (fun hs_189 => (some (hs_189, u33, hs_189))))))))))))))))))) (fun hs_38 H4 locs hR hP hD hS ls hl => ?_) 3 (0 : Int32) hs_14 _ _ (by decide) hR hP hD hS ls (lv_sub hl [0, 1] rfl)
  try dsimp only at hR
  refine lv_iconst (v := (0 : Int32)) hx hb dX7_digest_60 (by decide) ?_
  refine lv_istore_n (lv' := [(1, .int (0 : Int32)), (0, .ref (aM 0))]) hx hb dX7_digest_61 rfl hl (by decide) rfl (fun ls hl => ?_)
  have LOOP62 : ∀ (k : Pic → Int64 → (Option (Int64 × Pic × Int64))), (∀ (M_62 : Pic) (hs_62 : Int64) (H5 : Heap) (locs : List Loc), k M_62 hs_62 = some res → va_P (dC, dI) vwCl (wMo cI aM M_62 hs_62) H5 → va_D A (wMo cI aM M_62 hs_62) → va_S A s.heap H5 locs → ∀ (ls : Array Slot), lv_has ls 3 [(0, .ref (aM 0))] → W p l e (headSpec wsX7_digest rm_X7_digest).room s m ([.ref (aM 0)] : List Value).toArray below meth c H5 locs 0 0 (MQ below (q_X7_digest dC dI cI cZ cS aM res A) ([.ref (aM 0)] : List Value).toArray s 0 0 A) (F0 m 113 ls [])) → ∀ (nf : Nat) (x1_62 : Int32) (M_62 : Pic) (hs_62 : Int64) (H5 : Heap) (locs : List Loc), f7_digest_L62  nf x1_62 M_62 hs_62 k = some res → va_P (dC, dI) vwCl (wMo cI aM M_62 hs_62) H5 → va_D A (wMo cI aM M_62 hs_62) → va_S A s.heap H5 locs → ∀ (ls : Array Slot), lv_has ls 3 [(1, .int x1_62), (0, .ref (aM 0))] → W p l e (headSpec wsX7_digest rm_X7_digest).room s m ([.ref (aM 0)] : List Value).toArray below meth c H5 locs 0 0 (MQ below (q_X7_digest dC dI cI cZ cS aM res A) ([.ref (aM 0)] : List Value).toArray s 0 0 A) (F0 m 62 ls []) := by
    intro k hk nf
    induction nf with
    | zero =>
      intro x1_62 M_62 hs_62 H5 locs hR hP hD hS ls hl
      rw [f7_digest_L62] at hR
      cases hR
    | succ nf ih =>
      intro x1_62 M_62 hs_62 H5 locs hR hP hD hS ls hl
      rw [f7_digest_L62] at hR
      refine lv_iload_n hx hb dX7_digest_62 rfl (lv_at hl 0 rfl) ?_
      refine lv_aload_n hx hb dX7_digest_63 rfl (lv_at hl 1 rfl) ?_
      refine va_get (D := (dC, dI)) (ci := 7) (v := .ref (aM 1)) (C := RX7) (T := TX7) (N := 15) hx hb hts hin7 hown hK hP 0 rfl rfl 0 (by decide) (hw_ hts 4 rfl) (fun _ h9 => h9) rfl dX7_digest_64 ?_
      refine lv_iconst (v := (3 : Int32)) hx hb dX7_digest_67 (by decide) ?_
      refine va_iald (f := (M_62 0)) hx hb hK hP 1 0 rfl rfl (vp_in_nI (n := 3) (by decide) (by decide)) dX7_digest_68 ?_
      refine lv_icmp_ge (tgt := 113) hx hb dX7_digest_69 (by decide) (fun c_11 => ?_) (fun c_11 => ?_)
      · rw [if_pos c_11] at hR
        exact hk M_62 hs_62 _ _  hR hP hD hS ls (lv_sub hl [1] rfl)
      · rw [if_neg c_11] at hR
        refine lv_iconst (v := (0 : Int32)) hx hb dX7_digest_72 (by decide) ?_
        refine lv_istore_n (lv' := [(2, .int (0 : Int32)), (1, .int x1_62), (0, .ref (aM 0))]) hx hb dX7_digest_73 rfl hl (by decide) rfl (fun ls hl => ?_)
        have LOOP74 : ∀ (k : Pic → Int64 → (Option (Int64 × Pic × Int64))), (∀ (M_74 : Pic) (hs_74 : Int64) (H6 : Heap) (locs : List Loc), k M_74 hs_74 = some res → va_P (dC, dI) vwCl (wMo cI aM M_74 hs_74) H6 → va_D A (wMo cI aM M_74 hs_74) → va_S A s.heap H6 locs → ∀ (ls : Array Slot), lv_has ls 3 [(1, .int x1_62), (0, .ref (aM 0))] → W p l e (headSpec wsX7_digest rm_X7_digest).room s m ([.ref (aM 0)] : List Value).toArray below meth c H6 locs 0 0 (MQ below (q_X7_digest dC dI cI cZ cS aM res A) ([.ref (aM 0)] : List Value).toArray s 0 0 A) (F0 m 97 ls [])) → ∀ (nf : Nat) (x2_74 : Int32) (M_74 : Pic) (hs_74 : Int64) (H6 : Heap) (locs : List Loc), ((9 : Int32)).toInt - (x2_74).toInt ≤ (nf : Int) → f7_digest_L74 x1_62 nf x2_74 M_74 hs_74 k = some res → va_P (dC, dI) vwCl (wMo cI aM M_74 hs_74) H6 → va_D A (wMo cI aM M_74 hs_74) → va_S A s.heap H6 locs → ∀ (ls : Array Slot), lv_has ls 3 [(2, .int x2_74), (1, .int x1_62), (0, .ref (aM 0))] → W p l e (headSpec wsX7_digest rm_X7_digest).room s m ([.ref (aM 0)] : List Value).toArray below meth c H6 locs 0 0 (MQ below (q_X7_digest dC dI cI cZ cS aM res A) ([.ref (aM 0)] : List Value).toArray s 0 0 A) (F0 m 74 ls []) := by
          intro k hk nf
          induction nf with
          | zero =>
            intro x2_74 M_74 hs_74 H6 locs hfu hR hP hD hS ls hl
            rw [f7_digest_L74] at hR
            refine lv_iload_n hx hb dX7_digest_74 rfl (lv_at hl 0 rfl) ?_
            refine lv_bipush (v := (9 : Int32)) hx hb dX7_digest_75 (by decide) ?_
            refine lv_icmp_ge (tgt := 97) hx hb dX7_digest_77 (by decide) (fun c_12 => ?_) (fun c_12 => ?_)
            · skip
              exact hk M_74 hs_74 _ _  hR hP hD hS ls (lv_sub hl [1, 2] rfl)
            · exact (fuel0 hfu c_12).elim
          | succ nf ih =>
            intro x2_74 M_74 hs_74 H6 locs hfu hR hP hD hS ls hl
            rw [f7_digest_L74] at hR
            refine lv_iload_n hx hb dX7_digest_74 rfl (lv_at hl 0 rfl) ?_
            refine lv_bipush (v := (9 : Int32)) hx hb dX7_digest_75 (by decide) ?_
            refine lv_icmp_ge (tgt := 97) hx hb dX7_digest_77 (by decide) (fun c_13 => ?_) (fun c_13 => ?_)
            · rw [if_pos c_13] at hR
              exact hk M_74 hs_74 _ _  hR hP hD hS ls (lv_sub hl [1, 2] rfl)
            · rw [if_neg c_13] at hR
              have hfu := fuelS hfu c_13
              refine lv_aload_n hx hb dX7_digest_80 rfl (lv_at hl 2 rfl) ?_
              refine lv_aload_n hx hb dX7_digest_81 rfl (lv_at hl 2 rfl) ?_
              refine lv_iload_n hx hb dX7_digest_82 rfl (lv_at hl 1 rfl) ?_
              refine lv_iload_n hx hb dX7_digest_83 rfl (lv_at hl 0 rfl) ?_
              obtain ⟨r14, u15, hc16, hR⟩ := ob2_e hR
              have hF := va_free (wc := wMo cI aM M_74 hs_74) hD hS hA [0, 1, 2, 3, 4, 5, 6, 7, 8] rfl
              refine va_calli (va_runV (As := [.int x1_62, .int x2_74]) (rest := [.ref (aM 0)]) ⟨hx, hb, hml, hown, hts⟩ (met_X7_dishNow l dC dI cI cZ cS aM M_74 hs_74 H6.size x1_62 x2_74 (r14, u15) hc16) (cwV 2 hts gX7_digest_X7_dishNow rfl rfl rfl (by decide +kernel) ⟨Nat.le_of_ble_eq_true rfl, Nat.le_of_ble_eq_true rfl⟩) (pV (wc := wMo cI aM M_74 hs_74) (ci := 7) (q0 := 0) hK hP hD hN [0, 1, 2, 3, 4, 5, 6, 7, 8] rfl (by decide) rfl rfl) rfl rfl hl.1 rfl (lv_room (Nat.le_of_ble_eq_true rfl)) dX7_digest_84 ⟨Nat.zero_le _, Nat.zero_le _⟩) hS (fun q _ h => hF q h) hF (fun r14 u15 t H7 locs ht hvm hw hB hz1 hk1 hS => ?_)
              try dsimp only at hw hB
              rw [ht] at hB
              cases hw
              have hP := wrk (w2 := wMo cI aM u15 hs_74) hP hD [0, 1, 2, 3, 4, 5, 6, 7, 8] rfl (by decide) hk1 hB rfl rfl
              have hD := D_addr (w1 := wMo cI aM u15 hs_74) hD rfl
              refine lv_i2l (v := (r14).toInt64) hx hb dX7_digest_87 rfl ?_
              have hF := va_free (wc := wMo cI aM u15 hs_74) hD hS hA [0, 1, 2, 3, 4, 5, 6, 7, 8] rfl
              refine va_callv (va_runV (As := [.long (r14).toInt64]) (rest := []) ⟨hx, hb, hml, hown, hts⟩ (met_X7_mix l dC dI cI cZ cS aM u15 hs_74 H7.size ((r14).toInt64)) (cwV 1 hts gX7_digest_X7_mix rfl rfl rfl (by decide +kernel) ⟨Nat.le_of_ble_eq_true rfl, Nat.le_of_ble_eq_true rfl⟩) (pV (wc := wMo cI aM u15 hs_74) (ci := 7) (q0 := 0) hK hP hD hN [0, 1, 2, 3, 4, 5, 6, 7, 8] rfl (by decide) rfl rfl) rfl rfl hl.1 rfl (lv_room (Nat.le_of_ble_eq_true rfl)) dX7_digest_88 ⟨Nat.zero_le _, Nat.zero_le _⟩) hS (fun q _ h => hF q h) hF (fun  u17 t H8 locs ht hvm hw hB hz1 hk1 hS => ?_)
              try dsimp only at hw hB
              rw [ht] at hB
              have hR := bd_n hw hR
              have hP := wrk (w2 := wMo cI aM u15 u17) hP hD [0, 1, 2, 3, 4, 5, 6, 7, 8] rfl (by decide) hk1 hB rfl rfl
              have hD := D_addr (w1 := wMo cI aM u15 u17) hD rfl
              refine lv_iinc (v := (x2_74 + 1)) (lv' := [(2, .int (x2_74 + 1)), (1, .int x1_62), (0, .ref (aM 0))]) hx hb dX7_digest_91 hl (k := 0) rfl rfl (by decide) rfl (fun ls hl => ?_)
              refine lv_goto (tgt := 74) hx hb dX7_digest_94 (by decide) ?_
              exact ih (x2_74 + 1) u15 u17 _ _ hfu hR hP hD hS ls (lv_sub hl [0, 1, 2] rfl)
        refine LOOP74 (fun M_74 hs_74 => (ob2 (f7_dayFor M_74 x1_62) (fun r18 u19 => (bd (f7_mix hs_74 ((r18).toInt64)) (fun u21 => (f7_digest_L62  nf (x1_62 + 1) u19 u21 k)))))) (fun M_74 hs_74 H6 locs hR hP hD hS ls hl => ?_) 9 (0 : Int32) M_62 hs_62 _ _ (by decide) hR hP hD hS ls (lv_sub hl [0, 1, 2] rfl)
        try dsimp only at hR
        refine lv_aload_n hx hb dX7_digest_97 rfl (lv_at hl 1 rfl) ?_
        refine lv_aload_n hx hb dX7_digest_98 rfl (lv_at hl 1 rfl) ?_
        refine lv_iload_n hx hb dX7_digest_99 rfl (lv_at hl 0 rfl) ?_
        obtain ⟨r18, u19, hc20, hR⟩ := ob2_e hR
        have hF := va_free (wc := wMo cI aM M_74 hs_74) hD hS hA [0, 1, 2, 3, 4, 5, 6, 7, 8] rfl
        refine va_calli (va_runV (As := [.int x1_62]) (rest := [.ref (aM 0)]) ⟨hx, hb, hml, hown, hts⟩ (met_X7_dayFor l dC dI cI cZ cS aM M_74 hs_74 H6.size x1_62 (r18, u19) hc20) (cwV 1 hts gX7_digest_X7_dayFor rfl rfl rfl (by decide +kernel) ⟨Nat.le_of_ble_eq_true rfl, Nat.le_of_ble_eq_true rfl⟩) (pV (wc := wMo cI aM M_74 hs_74) (ci := 7) (q0 := 0) hK hP hD hN [0, 1, 2, 3, 4, 5, 6, 7, 8] rfl (by decide) rfl rfl) rfl rfl hl.1 rfl (lv_room (Nat.le_of_ble_eq_true rfl)) dX7_digest_100 ⟨Nat.zero_le _, Nat.zero_le _⟩) hS (fun q _ h => hF q h) hF (fun r18 u19 t H7 locs ht hvm hw hB hz1 hk1 hS => ?_)
        try dsimp only at hw hB
        rw [ht] at hB
        cases hw
        have hP := wrk (w2 := wMo cI aM u19 hs_74) hP hD [0, 1, 2, 3, 4, 5, 6, 7, 8] rfl (by decide) hk1 hB rfl rfl
        have hD := D_addr (w1 := wMo cI aM u19 hs_74) hD rfl
        refine lv_i2l (v := (r18).toInt64) hx hb dX7_digest_103 rfl ?_
        have hF := va_free (wc := wMo cI aM u19 hs_74) hD hS hA [0, 1, 2, 3, 4, 5, 6, 7, 8] rfl
        refine va_callv (va_runV (As := [.long (r18).toInt64]) (rest := []) ⟨hx, hb, hml, hown, hts⟩ (met_X7_mix l dC dI cI cZ cS aM u19 hs_74 H7.size ((r18).toInt64)) (cwV 1 hts gX7_digest_X7_mix rfl rfl rfl (by decide +kernel) ⟨Nat.le_of_ble_eq_true rfl, Nat.le_of_ble_eq_true rfl⟩) (pV (wc := wMo cI aM u19 hs_74) (ci := 7) (q0 := 0) hK hP hD hN [0, 1, 2, 3, 4, 5, 6, 7, 8] rfl (by decide) rfl rfl) rfl rfl hl.1 rfl (lv_room (Nat.le_of_ble_eq_true rfl)) dX7_digest_104 ⟨Nat.zero_le _, Nat.zero_le _⟩) hS (fun q _ h => hF q h) hF (fun  u21 t H8 locs ht hvm hw hB hz1 hk1 hS => ?_)
        try dsimp only at hw hB
        rw [ht] at hB
        have hR := bd_n hw hR
        have hP := wrk (w2 := wMo cI aM u19 u21) hP hD [0, 1, 2, 3, 4, 5, 6, 7, 8] rfl (by decide) hk1 hB rfl rfl
        have hD := D_addr (w1 := wMo cI aM u19 u21) hD rfl
        refine lv_iinc (v := (x1_62 + 1)) (lv' := [(1, .int (x1_62 + 1)), (0, .ref (aM 0))]) hx hb dX7_digest_107 hl (k := 0) rfl rfl (by decide) rfl (fun ls hl => ?_)
        refine lv_goto (tgt := 62) hx hb dX7_digest_110 (by decide) ?_
        exact ih (x1_62 + 1) u19 u21 _ _  hR hP hD hS ls (lv_sub hl [0, 1] rfl)
  refine LOOP62 (fun M_62 hs_62 => (f7_digest_L115 M_62 (fuelN (0 : Int32) ((3 : Int32) * ((M_62 0) (ix (4 : Int32))))) (0 : Int32) hs_62 (fun hs_115 => (f7_digest_L150  28 (0 : Int32) M_62 hs_115 (fun M_150 hs_150 => (ob2 (f7_used M_150) (fun r32 u33 => (bd (fJxe99ae_doubleToLongBits_ccdee r32) (fun r35 => (bd (f7_mix hs_150 r35) (fun u36 => (bd (f7_mix u36 ((((u33 5) 0)).toInt64)) (fun u37 => (f7_digest_L189 u33 (fuelN (0 : Int32) ((u33 5) 0)) (0 : Int32) u37 (fun hs_189 => (some (hs_189, u33, hs_189))))))))))))))))) (fun M_62 hs_62 H5 locs hR hP hD hS ls hl => ?_) 13 (0 : Int32) M_14 hs_38 _ _  hR hP hD hS ls (lv_sub hl [0, 1] rfl)
  try dsimp only at hR
  refine lv_iconst (v := (0 : Int32)) hx hb dX7_digest_113 (by decide) ?_
  refine lv_istore_n (lv' := [(1, .int (0 : Int32)), (0, .ref (aM 0))]) hx hb dX7_digest_114 rfl hl (by decide) rfl (fun ls hl => ?_)
  have LOOP115 : ∀ (k : Int64 → (Option (Int64 × Pic × Int64))), (∀ (hs_115 : Int64) (H6 : Heap) (locs : List Loc), k hs_115 = some res → va_P (dC, dI) vwCl (wMo cI aM M_62 hs_115) H6 → va_D A (wMo cI aM M_62 hs_115) → va_S A s.heap H6 locs → ∀ (ls : Array Slot), lv_has ls 3 [(0, .ref (aM 0))] → W p l e (headSpec wsX7_digest rm_X7_digest).room s m ([.ref (aM 0)] : List Value).toArray below meth c H6 locs 0 0 (MQ below (q_X7_digest dC dI cI cZ cS aM res A) ([.ref (aM 0)] : List Value).toArray s 0 0 A) (F0 m 148 ls [])) → ∀ (nf : Nat) (x1_115 : Int32) (hs_115 : Int64) (H6 : Heap) (locs : List Loc), (((3 : Int32) * ((M_62 0) (ix (4 : Int32))))).toInt - (x1_115).toInt ≤ (nf : Int) → f7_digest_L115 M_62 nf x1_115 hs_115 k = some res → va_P (dC, dI) vwCl (wMo cI aM M_62 hs_115) H6 → va_D A (wMo cI aM M_62 hs_115) → va_S A s.heap H6 locs → ∀ (ls : Array Slot), lv_has ls 3 [(1, .int x1_115), (0, .ref (aM 0))] → W p l e (headSpec wsX7_digest rm_X7_digest).room s m ([.ref (aM 0)] : List Value).toArray below meth c H6 locs 0 0 (MQ below (q_X7_digest dC dI cI cZ cS aM res A) ([.ref (aM 0)] : List Value).toArray s 0 0 A) (F0 m 115 ls []) := by
    intro k hk nf
    induction nf with
    | zero =>
      intro x1_115 hs_115 H6 locs hfu hR hP hD hS ls hl
      rw [f7_digest_L115] at hR
      refine lv_iload_n hx hb dX7_digest_115 rfl (lv_at hl 0 rfl) ?_
      refine lv_iconst (v := (3 : Int32)) hx hb dX7_digest_116 (by decide) ?_
      refine lv_aload_n hx hb dX7_digest_117 rfl (lv_at hl 1 rfl) ?_
      refine va_get (D := (dC, dI)) (ci := 7) (v := .ref (aM 1)) (C := RX7) (T := TX7) (N := 15) hx hb hts hin7 hown hK hP 0 rfl rfl 0 (by decide) (hw_ hts 4 rfl) (fun _ h9 => h9) rfl dX7_digest_118 ?_
      refine lv_iconst (v := (4 : Int32)) hx hb dX7_digest_121 (by decide) ?_
      refine va_iald (f := (M_62 0)) hx hb hK hP 1 0 rfl rfl (vp_in_nI (n := 4) (by decide) (by decide)) dX7_digest_122 ?_
      refine lv_imul hx hb dX7_digest_123 ?_
      refine lv_icmp_ge (tgt := 148) hx hb dX7_digest_124 (by decide) (fun c_22 => ?_) (fun c_22 => ?_)
      · skip
        exact hk hs_115 _ _  hR hP hD hS ls (lv_sub hl [1] rfl)
      · exact (fuel0 hfu c_22).elim
    | succ nf ih =>
      intro x1_115 hs_115 H6 locs hfu hR hP hD hS ls hl
      rw [f7_digest_L115] at hR
      refine lv_iload_n hx hb dX7_digest_115 rfl (lv_at hl 0 rfl) ?_
      refine lv_iconst (v := (3 : Int32)) hx hb dX7_digest_116 (by decide) ?_
      refine lv_aload_n hx hb dX7_digest_117 rfl (lv_at hl 1 rfl) ?_
      refine va_get (D := (dC, dI)) (ci := 7) (v := .ref (aM 1)) (C := RX7) (T := TX7) (N := 15) hx hb hts hin7 hown hK hP 0 rfl rfl 0 (by decide) (hw_ hts 4 rfl) (fun _ h9 => h9) rfl dX7_digest_118 ?_
      refine lv_iconst (v := (4 : Int32)) hx hb dX7_digest_121 (by decide) ?_
      refine va_iald (f := (M_62 0)) hx hb hK hP 1 0 rfl rfl (vp_in_nI (n := 4) (by decide) (by decide)) dX7_digest_122 ?_
      refine lv_imul hx hb dX7_digest_123 ?_
      refine lv_icmp_ge (tgt := 148) hx hb dX7_digest_124 (by decide) (fun c_23 => ?_) (fun c_23 => ?_)
      · rw [if_pos c_23] at hR
        exact hk hs_115 _ _  hR hP hD hS ls (lv_sub hl [1] rfl)
      · rw [if_neg c_23] at hR
        have hfu := fuelS hfu c_23
        refine lv_aload_n hx hb dX7_digest_127 rfl (lv_at hl 1 rfl) ?_
        refine lv_aload_n hx hb dX7_digest_128 rfl (lv_at hl 1 rfl) ?_
        refine lv_iload_n hx hb dX7_digest_129 rfl (lv_at hl 0 rfl) ?_
        refine lv_iconst (v := (3 : Int32)) hx hb dX7_digest_130 (by decide) ?_
        refine lv_idiv hx hb dX7_digest_131 (by decide) ?_
        refine lv_iload_n hx hb dX7_digest_132 rfl (lv_at hl 0 rfl) ?_
        refine lv_iconst (v := (3 : Int32)) hx hb dX7_digest_133 (by decide) ?_
        refine lv_irem hx hb dX7_digest_134 (by decide) ?_
        obtain ⟨r24, hc25, hR⟩ := ob1_e hR
        refine va_calli (va_runV (As := [.int (x1_115 / (3 : Int32)), .int (x1_115 - x1_115 / (3 : Int32) * (3 : Int32))]) (rest := [.ref (aM 0)]) ⟨hx, hb, hml, hown, hts⟩ (met_X7_guestNow l dC dI cI cZ cS aM M_62 hs_115 H6.size (x1_115 / (3 : Int32)) (x1_115 - x1_115 / (3 : Int32) * (3 : Int32)) r24 hc25) (cwV 2 hts gX7_digest_X7_guestNow rfl rfl rfl (by decide +kernel) ⟨Nat.le_of_ble_eq_true rfl, Nat.le_of_ble_eq_true rfl⟩) (pV (wc := wMo cI aM M_62 hs_115) (ci := 7) (q0 := 0) hK hP hD hN [0, 1, 2, 3, 4, 5, 6, 7, 8] rfl (by decide) rfl rfl) rfl rfl hl.1 rfl (lv_room (Nat.le_of_ble_eq_true rfl)) dX7_digest_135 ⟨Nat.zero_le _, Nat.zero_le _⟩) hS (fun q _ h => a0_in hS hA q h) (a0_in hS hA) (fun r24 u t H7 locs ht hvm hw hB hz1 hk1 hS => ?_)
        cases hw
        have hP := rdk hP hk1
        refine lv_i2l (v := (r24).toInt64) hx hb dX7_digest_138 rfl ?_
        have hF := va_free (wc := wMo cI aM M_62 hs_115) hD hS hA [0, 1, 2, 3, 4, 5, 6, 7, 8] rfl
        refine va_callv (va_runV (As := [.long (r24).toInt64]) (rest := []) ⟨hx, hb, hml, hown, hts⟩ (met_X7_mix l dC dI cI cZ cS aM M_62 hs_115 H7.size ((r24).toInt64)) (cwV 1 hts gX7_digest_X7_mix rfl rfl rfl (by decide +kernel) ⟨Nat.le_of_ble_eq_true rfl, Nat.le_of_ble_eq_true rfl⟩) (pV (wc := wMo cI aM M_62 hs_115) (ci := 7) (q0 := 0) hK hP hD hN [0, 1, 2, 3, 4, 5, 6, 7, 8] rfl (by decide) rfl rfl) rfl rfl hl.1 rfl (lv_room (Nat.le_of_ble_eq_true rfl)) dX7_digest_139 ⟨Nat.zero_le _, Nat.zero_le _⟩) hS (fun q _ h => hF q h) hF (fun  u26 t H8 locs ht hvm hw hB hz1 hk1 hS => ?_)
        try dsimp only at hw hB
        rw [ht] at hB
        have hR := bd_n hw hR
        have hP := wrk (w2 := wMo cI aM M_62 u26) hP hD [0, 1, 2, 3, 4, 5, 6, 7, 8] rfl (by decide) hk1 hB rfl rfl
        have hD := D_addr (w1 := wMo cI aM M_62 u26) hD rfl
        refine lv_iinc (v := (x1_115 + 1)) (lv' := [(1, .int (x1_115 + 1)), (0, .ref (aM 0))]) hx hb dX7_digest_142 hl (k := 0) rfl rfl (by decide) rfl (fun ls hl => ?_)
        refine lv_goto (tgt := 115) hx hb dX7_digest_145 (by decide) ?_
        exact ih (x1_115 + 1) u26 _ _ hfu hR hP hD hS ls (lv_sub hl [0, 1] rfl)
  refine LOOP115 (fun hs_115 => (f7_digest_L150  28 (0 : Int32) M_62 hs_115 (fun M_150 hs_150 => (ob2 (f7_used M_150) (fun r32 u33 => (bd (fJxe99ae_doubleToLongBits_ccdee r32) (fun r35 => (bd (f7_mix hs_150 r35) (fun u36 => (bd (f7_mix u36 ((((u33 5) 0)).toInt64)) (fun u37 => (f7_digest_L189 u33 (fuelN (0 : Int32) ((u33 5) 0)) (0 : Int32) u37 (fun hs_189 => (some (hs_189, u33, hs_189))))))))))))))) (fun hs_115 H6 locs hR hP hD hS ls hl => ?_) (fuelN (0 : Int32) ((3 : Int32) * ((M_62 0) (ix (4 : Int32))))) (0 : Int32) hs_62 _ _ (fuelE _ _) hR hP hD hS ls (lv_sub hl [0, 1] rfl)
  try dsimp only at hR
  refine lv_iconst (v := (0 : Int32)) hx hb dX7_digest_148 (by decide) ?_
  refine lv_istore_n (lv' := [(1, .int (0 : Int32)), (0, .ref (aM 0))]) hx hb dX7_digest_149 rfl hl (by decide) rfl (fun ls hl => ?_)
  have LOOP150 : ∀ (k : Pic → Int64 → (Option (Int64 × Pic × Int64))), (∀ (M_150 : Pic) (hs_150 : Int64) (H7 : Heap) (locs : List Loc), k M_150 hs_150 = some res → va_P (dC, dI) vwCl (wMo cI aM M_150 hs_150) H7 → va_D A (wMo cI aM M_150 hs_150) → va_S A s.heap H7 locs → ∀ (ls : Array Slot), lv_has ls 3 [(0, .ref (aM 0))] → W p l e (headSpec wsX7_digest rm_X7_digest).room s m ([.ref (aM 0)] : List Value).toArray below meth c H7 locs 0 0 (MQ below (q_X7_digest dC dI cI cZ cS aM res A) ([.ref (aM 0)] : List Value).toArray s 0 0 A) (F0 m 167 ls [])) → ∀ (nf : Nat) (x1_150 : Int32) (M_150 : Pic) (hs_150 : Int64) (H7 : Heap) (locs : List Loc), ((28 : Int32)).toInt - (x1_150).toInt ≤ (nf : Int) → f7_digest_L150  nf x1_150 M_150 hs_150 k = some res → va_P (dC, dI) vwCl (wMo cI aM M_150 hs_150) H7 → va_D A (wMo cI aM M_150 hs_150) → va_S A s.heap H7 locs → ∀ (ls : Array Slot), lv_has ls 3 [(1, .int x1_150), (0, .ref (aM 0))] → W p l e (headSpec wsX7_digest rm_X7_digest).room s m ([.ref (aM 0)] : List Value).toArray below meth c H7 locs 0 0 (MQ below (q_X7_digest dC dI cI cZ cS aM res A) ([.ref (aM 0)] : List Value).toArray s 0 0 A) (F0 m 150 ls []) := by
    intro k hk nf
    induction nf with
    | zero =>
      intro x1_150 M_150 hs_150 H7 locs hfu hR hP hD hS ls hl
      rw [f7_digest_L150] at hR
      refine lv_iload_n hx hb dX7_digest_150 rfl (lv_at hl 0 rfl) ?_
      refine lv_bipush (v := (28 : Int32)) hx hb dX7_digest_151 (by decide) ?_
      refine lv_icmp_ge (tgt := 167) hx hb dX7_digest_153 (by decide) (fun c_27 => ?_) (fun c_27 => ?_)
      · skip
        exact hk M_150 hs_150 _ _  hR hP hD hS ls (lv_sub hl [1] rfl)
      · exact (fuel0 hfu c_27).elim
    | succ nf ih =>
      intro x1_150 M_150 hs_150 H7 locs hfu hR hP hD hS ls hl
      rw [f7_digest_L150] at hR
      refine lv_iload_n hx hb dX7_digest_150 rfl (lv_at hl 0 rfl) ?_
      refine lv_bipush (v := (28 : Int32)) hx hb dX7_digest_151 (by decide) ?_
      refine lv_icmp_ge (tgt := 167) hx hb dX7_digest_153 (by decide) (fun c_28 => ?_) (fun c_28 => ?_)
      · rw [if_pos c_28] at hR
        exact hk M_150 hs_150 _ _  hR hP hD hS ls (lv_sub hl [1] rfl)
      · rw [if_neg c_28] at hR
        have hfu := fuelS hfu c_28
        refine lv_aload_n hx hb dX7_digest_156 rfl (lv_at hl 1 rfl) ?_
        refine lv_iload_n hx hb dX7_digest_157 rfl (lv_at hl 0 rfl) ?_
        obtain ⟨u29, u30, hc31, hR⟩ := ob2_e hR
        have hF := va_free (wc := wMo cI aM M_150 hs_150) hD hS hA [0, 1, 2, 3, 4, 5, 6, 7, 8] rfl
        refine va_callv (va_runV (As := [.int x1_150]) (rest := []) ⟨hx, hb, hml, hown, hts⟩ (met_X7_mixDay l dC dI cI cZ cS aM M_150 hs_150 H7.size x1_150 (u29, u30) hc31) (cwV 1 hts gX7_digest_X7_mixDay rfl rfl rfl (by decide +kernel) ⟨Nat.le_of_ble_eq_true rfl, Nat.le_of_ble_eq_true rfl⟩) (pV (wc := wMo cI aM M_150 hs_150) (ci := 7) (q0 := 0) hK hP hD hN [0, 1, 2, 3, 4, 5, 6, 7, 8] rfl (by decide) rfl rfl) rfl rfl hl.1 rfl (lv_room (Nat.le_of_ble_eq_true rfl)) dX7_digest_158 ⟨Nat.zero_le _, Nat.zero_le _⟩) hS (fun q _ h => hF q h) hF (fun  u t H8 locs ht hvm hw hB hz1 hk1 hS => ?_)
        obtain ⟨u29, u30⟩ := u
        try dsimp only at hw hB
        rw [ht] at hB
        cases hw
        have hP := wrk (w2 := wMo cI aM u29 u30) hP hD [0, 1, 2, 3, 4, 5, 6, 7, 8] rfl (by decide) hk1 hB rfl rfl
        have hD := D_addr (w1 := wMo cI aM u29 u30) hD rfl
        refine lv_iinc (v := (x1_150 + 1)) (lv' := [(1, .int (x1_150 + 1)), (0, .ref (aM 0))]) hx hb dX7_digest_161 hl (k := 0) rfl rfl (by decide) rfl (fun ls hl => ?_)
        refine lv_goto (tgt := 150) hx hb dX7_digest_164 (by decide) ?_
        exact ih (x1_150 + 1) u29 u30 _ _ hfu hR hP hD hS ls (lv_sub hl [0, 1] rfl)
  refine LOOP150 (fun M_150 hs_150 => (ob2 (f7_used M_150) (fun r32 u33 => (bd (fJxe99ae_doubleToLongBits_ccdee r32) (fun r35 => (bd (f7_mix hs_150 r35) (fun u36 => (bd (f7_mix u36 ((((u33 5) 0)).toInt64)) (fun u37 => (f7_digest_L189 u33 (fuelN (0 : Int32) ((u33 5) 0)) (0 : Int32) u37 (fun hs_189 => (some (hs_189, u33, hs_189))))))))))))) (fun M_150 hs_150 H7 locs hR hP hD hS ls hl => ?_) 28 (0 : Int32) M_62 hs_115 _ _ (by decide) hR hP hD hS ls (lv_sub hl [0, 1] rfl)
  try dsimp only at hR
  refine lv_aload_n hx hb dX7_digest_167 rfl (lv_at hl 0 rfl) ?_
  refine lv_aload_n hx hb dX7_digest_168 rfl (lv_at hl 0 rfl) ?_
  obtain ⟨r32, u33, hc34, hR⟩ := ob2_e hR
  have hF := va_free (wc := wMo cI aM M_150 hs_150) hD hS hA [0, 1, 2, 3, 4, 5, 6, 7, 8] rfl
  refine va_calld (va_runV (As := []) (rest := [.ref (aM 0)]) ⟨hx, hb, hml, hown, hts⟩ (met_X7_used l dC dI cI cZ cS aM M_150 hs_150 H7.size (r32, u33) hc34) (cwV 0 hts gX7_digest_X7_used rfl rfl rfl (by decide +kernel) ⟨Nat.le_of_ble_eq_true rfl, Nat.le_of_ble_eq_true rfl⟩) (pV (wc := wMo cI aM M_150 hs_150) (ci := 7) (q0 := 0) hK hP hD hN [0, 1, 2, 3, 4, 5, 6, 7, 8] rfl (by decide) rfl rfl) rfl rfl hl.1 rfl (lv_room (Nat.le_of_ble_eq_true rfl)) dX7_digest_169 ⟨Nat.zero_le _, Nat.zero_le _⟩) hS (fun q _ h => hF q h) hF (fun r32 u33 t H8 locs ht hvm hw hB hz1 hk1 hS => ?_)
  try dsimp only at hw hB
  rw [ht] at hB
  cases hw
  have hP := wrk (w2 := wMo cI aM u33 hs_150) hP hD [0, 1, 2, 3, 4, 5, 6, 7, 8] rfl (by decide) hk1 hB rfl rfl
  have hD := D_addr (w1 := wMo cI aM u33 hs_150) hD rfl
  refine va_calll (va_runS (As := [.double r32]) (rest := [.ref (aM 0)]) ⟨hx, hb, hml, hown, hts⟩ (met_Jxe99ae_doubleToLongBits_ccdee l dC dI cI cZ cS H8.size r32) (va_cwS 1 hts gX7_digest_Jxe99ae_doubleToLongBits_ccdee rfl rfl rfl (by decide +kernel) ⟨Nat.le_of_ble_eq_true rfl, Nat.le_of_ble_eq_true rfl⟩) (pS (wc := []) hK hP hD hN [] rfl (by decide)) rfl rfl hl.1 rfl (lv_room (Nat.le_of_ble_eq_true rfl)) dX7_digest_172 ⟨Nat.zero_le _, Nat.zero_le _⟩) hS (fun q _ h => a0_in hS hA q h) (a0_in hS hA) (fun r35 u t H9 locs ht hvm hw hB hz1 hk1 hS => ?_)
  have hR := bd_n hw hR
  have hP := rdk hP hk1
  have hF := va_free (wc := wMo cI aM u33 hs_150) hD hS hA [0, 1, 2, 3, 4, 5, 6, 7, 8] rfl
  refine va_callv (va_runV (As := [.long r35]) (rest := []) ⟨hx, hb, hml, hown, hts⟩ (met_X7_mix l dC dI cI cZ cS aM u33 hs_150 H9.size r35) (cwV 1 hts gX7_digest_X7_mix rfl rfl rfl (by decide +kernel) ⟨Nat.le_of_ble_eq_true rfl, Nat.le_of_ble_eq_true rfl⟩) (pV (wc := wMo cI aM u33 hs_150) (ci := 7) (q0 := 0) hK hP hD hN [0, 1, 2, 3, 4, 5, 6, 7, 8] rfl (by decide) rfl rfl) rfl rfl hl.1 rfl (lv_room (Nat.le_of_ble_eq_true rfl)) dX7_digest_175 ⟨Nat.zero_le _, Nat.zero_le _⟩) hS (fun q _ h => hF q h) hF (fun  u36 t H10 locs ht hvm hw hB hz1 hk1 hS => ?_)
  try dsimp only at hw hB
  rw [ht] at hB
  have hR := bd_n hw hR
  have hP := wrk (w2 := wMo cI aM u33 u36) hP hD [0, 1, 2, 3, 4, 5, 6, 7, 8] rfl (by decide) hk1 hB rfl rfl
  have hD := D_addr (w1 := wMo cI aM u33 u36) hD rfl
  refine lv_aload_n hx hb dX7_digest_178 rfl (lv_at hl 0 rfl) ?_
  refine lv_aload_n hx hb dX7_digest_179 rfl (lv_at hl 0 rfl) ?_
  refine va_get (D := (dC, dI)) (ci := 7) (v := .int ((u33 5) 0)) (C := RX7) (T := TX7) (N := 15) hx hb hts hin7 hown hK hP 0 rfl rfl 5 (by decide) (hw_ hts 5 rfl) (fun _ h9 => h9) rfl dX7_digest_180 ?_
  refine lv_i2l (v := (((u33 5) 0)).toInt64) hx hb dX7_digest_183 rfl ?_
  have hF := va_free (wc := wMo cI aM u33 u36) hD hS hA [0, 1, 2, 3, 4, 5, 6, 7, 8] rfl
  refine va_callv (va_runV (As := [.long (((u33 5) 0)).toInt64]) (rest := []) ⟨hx, hb, hml, hown, hts⟩ (met_X7_mix l dC dI cI cZ cS aM u33 u36 H10.size ((((u33 5) 0)).toInt64)) (cwV 1 hts gX7_digest_X7_mix rfl rfl rfl (by decide +kernel) ⟨Nat.le_of_ble_eq_true rfl, Nat.le_of_ble_eq_true rfl⟩) (pV (wc := wMo cI aM u33 u36) (ci := 7) (q0 := 0) hK hP hD hN [0, 1, 2, 3, 4, 5, 6, 7, 8] rfl (by decide) rfl rfl) rfl rfl hl.1 rfl (lv_room (Nat.le_of_ble_eq_true rfl)) dX7_digest_184 ⟨Nat.zero_le _, Nat.zero_le _⟩) hS (fun q _ h => hF q h) hF (fun  u37 t H11 locs ht hvm hw hB hz1 hk1 hS => ?_)
  try dsimp only at hw hB
  rw [ht] at hB
  have hR := bd_n hw hR
  have hP := wrk (w2 := wMo cI aM u33 u37) hP hD [0, 1, 2, 3, 4, 5, 6, 7, 8] rfl (by decide) hk1 hB rfl rfl
  have hD := D_addr (w1 := wMo cI aM u33 u37) hD rfl
  refine lv_iconst (v := (0 : Int32)) hx hb dX7_digest_187 (by decide) ?_
  refine lv_istore_n (lv' := [(1, .int (0 : Int32)), (0, .ref (aM 0))]) hx hb dX7_digest_188 rfl hl (by decide) rfl (fun ls hl => ?_)
  have LOOP189 : ∀ (k : Int64 → (Option (Int64 × Pic × Int64))), (∀ (hs_189 : Int64) (H12 : Heap) (locs : List Loc), k hs_189 = some res → va_P (dC, dI) vwCl (wMo cI aM u33 hs_189) H12 → va_D A (wMo cI aM u33 hs_189) → va_S A s.heap H12 locs → ∀ (ls : Array Slot), lv_has ls 3 [(0, .ref (aM 0))] → W p l e (headSpec wsX7_digest rm_X7_digest).room s m ([.ref (aM 0)] : List Value).toArray below meth c H12 locs 0 0 (MQ below (q_X7_digest dC dI cI cZ cS aM res A) ([.ref (aM 0)] : List Value).toArray s 0 0 A) (F0 m 214 ls [])) → ∀ (nf : Nat) (x1_189 : Int32) (hs_189 : Int64) (H12 : Heap) (locs : List Loc), (((u33 5) 0)).toInt - (x1_189).toInt ≤ (nf : Int) → f7_digest_L189 u33 nf x1_189 hs_189 k = some res → va_P (dC, dI) vwCl (wMo cI aM u33 hs_189) H12 → va_D A (wMo cI aM u33 hs_189) → va_S A s.heap H12 locs → ∀ (ls : Array Slot), lv_has ls 3 [(1, .int x1_189), (0, .ref (aM 0))] → W p l e (headSpec wsX7_digest rm_X7_digest).room s m ([.ref (aM 0)] : List Value).toArray below meth c H12 locs 0 0 (MQ below (q_X7_digest dC dI cI cZ cS aM res A) ([.ref (aM 0)] : List Value).toArray s 0 0 A) (F0 m 189 ls []) := by
    intro k hk nf
    induction nf with
    | zero =>
      intro x1_189 hs_189 H12 locs hfu hR hP hD hS ls hl
      rw [f7_digest_L189] at hR
      refine lv_iload_n hx hb dX7_digest_189 rfl (lv_at hl 0 rfl) ?_
      refine lv_aload_n hx hb dX7_digest_190 rfl (lv_at hl 1 rfl) ?_
      refine va_get (D := (dC, dI)) (ci := 7) (v := .int ((u33 5) 0)) (C := RX7) (T := TX7) (N := 15) hx hb hts hin7 hown hK hP 0 rfl rfl 5 (by decide) (hw_ hts 5 rfl) (fun _ h9 => h9) rfl dX7_digest_191 ?_
      refine lv_icmp_ge (tgt := 214) hx hb dX7_digest_194 (by decide) (fun c_38 => ?_) (fun c_38 => ?_)
      · skip
        exact hk hs_189 _ _  hR hP hD hS ls (lv_sub hl [1] rfl)
      · exact (fuel0 hfu c_38).elim
    | succ nf ih =>
      intro x1_189 hs_189 H12 locs hfu hR hP hD hS ls hl
      rw [f7_digest_L189] at hR
      refine lv_iload_n hx hb dX7_digest_189 rfl (lv_at hl 0 rfl) ?_
      refine lv_aload_n hx hb dX7_digest_190 rfl (lv_at hl 1 rfl) ?_
      refine va_get (D := (dC, dI)) (ci := 7) (v := .int ((u33 5) 0)) (C := RX7) (T := TX7) (N := 15) hx hb hts hin7 hown hK hP 0 rfl rfl 5 (by decide) (hw_ hts 5 rfl) (fun _ h9 => h9) rfl dX7_digest_191 ?_
      refine lv_icmp_ge (tgt := 214) hx hb dX7_digest_194 (by decide) (fun c_39 => ?_) (fun c_39 => ?_)
      · rw [if_pos c_39] at hR
        exact hk hs_189 _ _  hR hP hD hS ls (lv_sub hl [1] rfl)
      · rw [if_neg c_39] at hR
        have hfu := fuelS hfu c_39
        refine lv_aload_n hx hb dX7_digest_197 rfl (lv_at hl 1 rfl) ?_
        refine lv_aload_n hx hb dX7_digest_198 rfl (lv_at hl 1 rfl) ?_
        refine va_get (D := (dC, dI)) (ci := 7) (v := .ref (aM 5)) (C := RX7) (T := TX7) (N := 15) hx hb hts hin7 hown hK hP 0 rfl rfl 6 (by decide) (hw_ hts 6 rfl) (fun _ h9 => h9) rfl dX7_digest_199 ?_
        refine lv_iload_n hx hb dX7_digest_202 rfl (lv_at hl 0 rfl) ?_
        obtain ⟨hix40, hR⟩ := ck_some hR
        refine va_iald (f := (u33 6)) hx hb hK hP 5 0 rfl rfl hix40 dX7_digest_203 ?_
        refine lv_i2l (v := (((u33 6) (ix x1_189))).toInt64) hx hb dX7_digest_204 rfl ?_
        have hF := va_free (wc := wMo cI aM u33 hs_189) hD hS hA [0, 1, 2, 3, 4, 5, 6, 7, 8] rfl
        refine va_callv (va_runV (As := [.long (((u33 6) (ix x1_189))).toInt64]) (rest := []) ⟨hx, hb, hml, hown, hts⟩ (met_X7_mix l dC dI cI cZ cS aM u33 hs_189 H12.size ((((u33 6) (ix x1_189))).toInt64)) (cwV 1 hts gX7_digest_X7_mix rfl rfl rfl (by decide +kernel) ⟨Nat.le_of_ble_eq_true rfl, Nat.le_of_ble_eq_true rfl⟩) (pV (wc := wMo cI aM u33 hs_189) (ci := 7) (q0 := 0) hK hP hD hN [0, 1, 2, 3, 4, 5, 6, 7, 8] rfl (by decide) rfl rfl) rfl rfl hl.1 rfl (lv_room (Nat.le_of_ble_eq_true rfl)) dX7_digest_205 ⟨Nat.zero_le _, Nat.zero_le _⟩) hS (fun q _ h => hF q h) hF (fun  u41 t H13 locs ht hvm hw hB hz1 hk1 hS => ?_)
        try dsimp only at hw hB
        rw [ht] at hB
        have hR := bd_n hw hR
        have hP := wrk (w2 := wMo cI aM u33 u41) hP hD [0, 1, 2, 3, 4, 5, 6, 7, 8] rfl (by decide) hk1 hB rfl rfl
        have hD := D_addr (w1 := wMo cI aM u33 u41) hD rfl
        refine lv_iinc (v := (x1_189 + 1)) (lv' := [(1, .int (x1_189 + 1)), (0, .ref (aM 0))]) hx hb dX7_digest_208 hl (k := 0) rfl rfl (by decide) rfl (fun ls hl => ?_)
        refine lv_goto (tgt := 189) hx hb dX7_digest_211 (by decide) ?_
        exact ih (x1_189 + 1) u41 _ _ hfu hR hP hD hS ls (lv_sub hl [0, 1] rfl)
  refine LOOP189 (fun hs_189 => (some (hs_189, u33, hs_189))) (fun hs_189 H12 locs hR hP hD hS ls hl => ?_) (fuelN (0 : Int32) ((u33 5) 0)) (0 : Int32) u37 _ _ (fuelE _ _) hR hP hD hS ls (lv_sub hl [0, 1] rfl)
  try dsimp only at hR
  refine lv_aload_n hx hb dX7_digest_214 rfl (lv_at hl 0 rfl) ?_
  refine va_get (D := (dC, dI)) (ci := 7) (v := .long hs_189) (C := RX7) (T := TX7) (N := 15) hx hb hts hin7 hown hK hP 0 rfl rfl 14 (by decide) (hw_ hts 3 rfl) (fun _ h9 => h9) rfl dX7_digest_215 ?_
  exact W.lret (v := hs_189) hx hb hr (fun t ht hW => ⟨⟨hs_189, (u33, hs_189), rfl, Option.some.inj hR, P_at ht hP⟩, hS.F ht⟩) hS.2.2 dX7_digest_218
