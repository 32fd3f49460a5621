abbrev rm_X7_put : Room := { frames := 0, cells := 0, slots := 0, locals := 0 }
abbrev q_X7_put (dC : Nat → ClassId) (dI : Nat → Nat → Nat) (cI cZ cS : ClassId) (aM : Nat → Nat) (hs : Int64) (res : Pic) (A : Nat → Prop) : Array Value → State → Outcome → State → Prop := va_Qv (fun (u : Pic) => u = res) (fun u t => va_P (dC, dI) vwCl (wMo cI aM u hs) t.heap) A
set_option maxHeartbeats 4000000 in
set_option maxRecDepth 100000 in
theorem met_X7_put (l : Launch) (dC : Nat → ClassId) (dI : Nat → Nat → Nat) (cI cZ cS : ClassId) (aM : Nat → Nat) (M : Pic) (hs : Int64) (sz : Nat) (p1 : Int32) (p2 : Int32) (p3 : Int32) (res : Pic) (hR : f7_put M p1 p2 p3 = some res) : Met l yX7_put wsX7_put rm_X7_put (va_Pc [.ref (aM 0), .int p1, .int p2, .int p3] (pW (dC, dI) (tyS cI cZ cS) (wMo cI aM M hs) sz)) (q_X7_put dC dI cI cZ cS aM hs res (va_A (wMo cI aM M hs) sz)) 0 0 (va_A (wMo cI aM M hs) sz) := by
  refine Met.ofW (cc := cX7_put) (maxL := 4) (ret := none) (by decide) rfl ?_
  intro p e s m args below meth c s₁ B hml hv
  obtain ⟨rfl, hsz, hP, hK, hD0, hN⟩ := hv
  have hx := B.exec
  have hb := B.bytes
  have hr := B.returns
  have hts := atoms_spec (ws := wsX7_put) B.pre
  have hown : s.vm.findClass RX7 = some m.cls := findClass_of_methodNamed B.named
  have hlocks := B.notSynchronized
  subst hsz
  have hD := hD0.self (sz := s.heap.size)
  generalize hAe : va_A (wMo cI aM M hs) s.heap.size = A at hD ⊢
  have hA : ∀ q : Nat, s.heap.size ≤ q → A q := fun q h => by rw [← hAe]; exact Or.inr h
  have hS : va_S A s.heap s.heap [] := va_S.rf
  have hP : va_P (dC, dI) vwCl (wMo cI aM M hs) s.heap := hP
  rw [f7_put] at hR
  have hin7 : ∀ w ∈ wsX70, w ∈ wsX7_put := by decide +kernel
  have hl := lv_entry ([.ref (aM 0), .int p1, .int p2, .int p3]) (n := 4) (Nat.le_of_ble_eq_true rfl)
  rw [lg_entry_eq]
  generalize (lg_sl ([.ref (aM 0), .int p1, .int p2, .int p3]) ++ List.replicate (4 - (lg_sl ([.ref (aM 0), .int p1, .int p2, .int p3])).length) Slot.unset).toArray = ls at hl ⊢
  have hl : lv_has ls 4 [(0, .ref (aM 0)), (1, .int p1), (2, .int p2), (3, .int p3)] := hl
  refine lv_aload_n hx hb dX7_put_0 rfl (lv_at hl 0 rfl) ?_
  refine va_get (D := (dC, dI)) (ci := 7) (v := .ref (aM 1)) (C := RX7) (T := TX7) (N := 15) hx hb hts hin7 hown hK hP 0 rfl rfl 0 (by decide) (hw_ hts 1 rfl) (fun _ h9 => h9) rfl dX7_put_1 ?_
  refine lv_bipush (v := (89 : Int32)) hx hb dX7_put_4 (by decide) ?_
  refine lv_iconst (v := (3 : Int32)) hx hb dX7_put_6 (by decide) ?_
  refine lv_iload_n hx hb dX7_put_7 rfl (lv_at hl 1 rfl) ?_
  refine lv_imul hx hb dX7_put_8 ?_
  refine lv_iadd hx hb dX7_put_9 ?_
  refine lv_iload_n hx hb dX7_put_10 rfl (lv_at hl 2 rfl) ?_
  refine lv_iadd hx hb dX7_put_11 ?_
  refine lv_iload_n hx hb dX7_put_12 rfl (lv_at hl 3 rfl) ?_
  obtain ⟨hix1, hR⟩ := ck_some hR
  refine va_iast (f := (M 0)) hx hb hK hP hD hS 1 0 rfl rfl hix1 dX7_put_13 (fun H1 locs hP hD hS => ?_)
  have hP : va_P (dC, dI) vwCl (wMo cI aM (pset M 0 (upd (M 0) (ix (((89 : Int32) + ((3 : Int32) * p1)) + p2)) p3)) hs) H1 := hP
  have hD : va_D A (wMo cI aM (pset M 0 (upd (M 0) (ix (((89 : Int32) + ((3 : Int32) * p1)) + p2)) p3)) hs) := hD
  obtain ⟨Mb2, hMb2⟩ : ∃ z : Pic, z = (pset M 0 (upd (M 0) (ix (((89 : Int32) + ((3 : Int32) * p1)) + p2)) p3)) := ⟨_, rfl⟩
  rw [← hMb2] at hP hD
  have hR := bd_n hMb2 hR
  exact W.vret hx hb hr (fun t ht hW => ⟨⟨Mb2, rfl, Option.some.inj hR, P_at ht hP⟩, hS.F ht⟩) hS.2.2 dX7_put_14
abbrev rm_X7_soundWith : Room := { frames := 5, cells := 0, slots := 0, locals := 114 }
abbrev q_X7_soundWith (dC : Nat → ClassId) (dI : Nat → Nat → Nat) (cI cZ cS : ClassId) (aM : Nat → Nat) (hs : Int64) (res : Int32 × Pic) (A : Nat → Prop) : Array Value → State → Outcome → State → Prop := va_Qi (fun (r : Int32) (u : Pic) => (r, u) = res ∧ narrow .boolean (.int r) = .int r) (fun u t => va_P (dC, dI) vwCl (wMo cI aM u hs) t.heap) A
set_option maxHeartbeats 4000000 in
set_option maxRecDepth 100000 in
theorem met_X7_soundWith (l : Launch) (dC : Nat → ClassId) (dI : Nat → Nat → Nat) (cI cZ cS : ClassId) (aM : Nat → Nat) (M : Pic) (hs : Int64) (sz : Nat) (p1 : Int32) (p2 : Int32) (p3 : Int32) (res : Int32 × Pic) (hR : f7_soundWith M p1 p2 p3 = some res) : Met l yX7_soundWith wsX7_soundWith rm_X7_soundWith (va_Pc [.ref (aM 0), .int p1, .int p2, .int p3] (pW (dC, dI) (tyS cI cZ cS) (wMo cI aM M hs) sz)) (q_X7_soundWith dC dI cI cZ cS aM hs res (va_A (wMo cI aM M hs) sz)) 0 0 (va_A (wMo cI aM M hs) sz) := by
  refine Met.ofW (cc := cX7_soundWith) (maxL := 6) (ret := (some .boolean)) (by decide) rfl ?_
  intro p e s m args below meth c s₁ B hml hv
  obtain ⟨rfl, hsz, hP, hK, hD0, hN⟩ := hv
  have hx := B.exec
  have hb := B.bytes
  have hr := B.returns
  have hts := atoms_spec (ws := wsX7_soundWith) B.pre
  have hown : s.vm.findClass RX7 = some m.cls := findClass_of_methodNamed B.named
  have hlocks := B.notSynchronized
  subst hsz
  have hD := hD0.self (sz := s.heap.size)
  generalize hAe : va_A (wMo cI aM M hs) s.heap.size = A at hD ⊢
  have hA : ∀ q : Nat, s.heap.size ≤ q → A q := fun q h => by rw [← hAe]; exact Or.inr h
  have hS : va_S A s.heap s.heap [] := va_S.rf
  have hP : va_P (dC, dI) vwCl (wMo cI aM M hs) s.heap := hP
  rw [f7_soundWith] at hR
  have hl := lv_entry ([.ref (aM 0), .int p1, .int p2, .int p3]) (n := 6) (Nat.le_of_ble_eq_true rfl)
  rw [lg_entry_eq]
  generalize (lg_sl ([.ref (aM 0), .int p1, .int p2, .int p3]) ++ List.replicate (6 - (lg_sl ([.ref (aM 0), .int p1, .int p2, .int p3])).length) Slot.unset).toArray = ls at hl ⊢
  have hl : lv_has ls 6 [(0, .ref (aM 0)), (1, .int p1), (2, .int p2), (3, .int p3)] := hl
  refine lv_aload_n hx hb dX7_soundWith_0 rfl (lv_at hl 0 rfl) ?_
  refine lv_iload_n hx hb dX7_soundWith_1 rfl (lv_at hl 1 rfl) ?_
  refine lv_iload_n hx hb dX7_soundWith_2 rfl (lv_at hl 2 rfl) ?_
  obtain ⟨r1, hc2, hR⟩ := ob1_e hR
  refine va_calli (va_runV (As := [.int p1, .int p2]) (rest := []) ⟨hx, hb, hml, hown, hts⟩ (met_X7_at l dC dI cI cZ cS aM M hs s.heap.size p1 p2 r1 hc2) (cwV 2 hts gX7_soundWith_X7_at rfl rfl rfl (by decide +kernel) ⟨Nat.le_of_ble_eq_true rfl, Nat.le_of_ble_eq_true rfl⟩) (pV (wc := wMo cI aM M hs) (ci := 7) (q0 := 0) hK hP hD hN [0, 1, 2, 3, 4, 5, 6, 7, 8] rfl (by decide) rfl rfl) rfl rfl hl.1 rfl (lv_room (Nat.le_of_ble_eq_true rfl)) dX7_soundWith_3 ⟨Nat.zero_le _, Nat.zero_le _⟩) hS (fun q _ h => a0_in hS hA q h) (a0_in hS hA) (fun r1 u t H1 locs ht hvm hw hB hz1 hk1 hS => ?_)
  cases hw
  have hP := rdk hP hk1
  refine lv_istore (lv' := [(4, .int r1), (0, .ref (aM 0)), (1, .int p1), (2, .int p2), (3, .int p3)]) hx hb dX7_soundWith_6 hl (by decide) rfl (fun ls hl => ?_)
  refine lv_aload_n hx hb dX7_soundWith_8 rfl (lv_at hl 1 rfl) ?_
  refine lv_iload_n hx hb dX7_soundWith_9 rfl (lv_at hl 2 rfl) ?_
  refine lv_iload_n hx hb dX7_soundWith_10 rfl (lv_at hl 3 rfl) ?_
  refine lv_iload_n hx hb dX7_soundWith_11 rfl (lv_at hl 4 rfl) ?_
  obtain ⟨u3, hc4, hR⟩ := ob1_e hR
  have hF := va_free (wc := wMo cI aM M hs) hD hS hA [0, 1, 2, 3, 4, 5, 6, 7, 8] rfl
  refine va_callv (va_runV (As := [.int p1, .int p2, .int p3]) (rest := []) ⟨hx, hb, hml, hown, hts⟩ (met_X7_put l dC dI cI cZ cS aM M hs H1.size p1 p2 p3 u3 hc4) (cwV 3 hts gX7_soundWith_X7_put rfl rfl rfl (by decide +kernel) ⟨Nat.le_of_ble_eq_true rfl, Nat.le_of_ble_eq_true rfl⟩) (pV (wc := wMo cI aM M hs) (ci := 7) (q0 := 0) hK hP hD hN [0, 1, 2, 3, 4, 5, 6, 7, 8] rfl (by decide) rfl rfl) rfl rfl hl.1 rfl (lv_room (Nat.le_of_ble_eq_true rfl)) dX7_soundWith_12 ⟨Nat.zero_le _, Nat.zero_le _⟩) hS (fun q _ h => hF q h) hF (fun  u3 t H2 locs ht hvm hw hB hz1 hk1 hS => ?_)
  try dsimp only at hw hB
  rw [ht] at hB
  cases hw
  have hP := wrk (w2 := wMo cI aM u3 hs) hP hD [0, 1, 2, 3, 4, 5, 6, 7, 8] rfl (by decide) hk1 hB rfl rfl
  have hD := D_addr (w1 := wMo cI aM u3 hs) hD rfl
  refine lv_aload_n hx hb dX7_soundWith_15 rfl (lv_at hl 1 rfl) ?_
  obtain ⟨r5, u6, hc7, hR⟩ := ob2_e hR
  have hF := va_free (wc := wMo cI aM u3 hs) hD hS hA [0, 1, 2, 3, 4, 5, 6, 7, 8] rfl
  refine va_calli (va_runV (As := []) (rest := []) ⟨hx, hb, hml, hown, hts⟩ (met_X7_match l dC dI cI cZ cS aM u3 hs H2.size (r5, u6) hc7) (cwV 0 hts gX7_soundWith_X7_match rfl rfl rfl (by decide +kernel) ⟨Nat.le_of_ble_eq_true rfl, Nat.le_of_ble_eq_true rfl⟩) (pV (wc := wMo cI aM u3 hs) (ci := 7) (q0 := 0) hK hP hD hN [0, 1, 2, 3, 4, 5, 6, 7, 8] rfl (by decide) rfl rfl) rfl rfl hl.1 rfl (lv_room (Nat.le_of_ble_eq_true rfl)) dX7_soundWith_16 ⟨Nat.zero_le _, Nat.zero_le _⟩) hS (fun q _ h => hF q h) hF (fun r5 u6 t H3 locs ht hvm hw hB hz1 hk1 hS => ?_)
  obtain ⟨hw, nb8⟩ := hw
  try dsimp only at hw hB
  rw [ht] at hB
  cases hw
  have hP := wrk (w2 := wMo cI aM u6 hs) hP hD [0, 1, 2, 3, 4, 5, 6, 7, 8] rfl (by decide) hk1 hB rfl rfl
  have hD := D_addr (w1 := wMo cI aM u6 hs) hD rfl
  refine lv_istore (lv' := [(5, .int r5), (4, .int r1), (0, .ref (aM 0)), (1, .int p1), (2, .int p2), (3, .int p3)]) hx hb dX7_soundWith_19 hl (by decide) rfl (fun ls hl => ?_)
  refine lv_aload_n hx hb dX7_soundWith_21 rfl (lv_at hl 2 rfl) ?_
  refine lv_iload_n hx hb dX7_soundWith_22 rfl (lv_at hl 3 rfl) ?_
  refine lv_iload_n hx hb dX7_soundWith_23 rfl (lv_at hl 4 rfl) ?_
  refine lv_iload hx hb dX7_soundWith_24 (lv_at hl 1 rfl) ?_
  obtain ⟨u9, hc10, hR⟩ := ob1_e hR
  have hF := va_free (wc := wMo cI aM u6 hs) hD hS hA [0, 1, 2, 3, 4, 5, 6, 7, 8] rfl
  refine va_callv (va_runV (As := [.int p1, .int p2, .int r1]) (rest := []) ⟨hx, hb, hml, hown, hts⟩ (met_X7_put l dC dI cI cZ cS aM u6 hs H3.size p1 p2 r1 u9 hc10) (cwV 3 hts gX7_soundWith_X7_put rfl rfl rfl (by decide +kernel) ⟨Nat.le_of_ble_eq_true rfl, Nat.le_of_ble_eq_true rfl⟩) (pV (wc := wMo cI aM u6 hs) (ci := 7) (q0 := 0) hK hP hD hN [0, 1, 2, 3, 4, 5, 6, 7, 8] rfl (by decide) rfl rfl) rfl rfl hl.1 rfl (lv_room (Nat.le_of_ble_eq_true rfl)) dX7_soundWith_26 ⟨Nat.zero_le _, Nat.zero_le _⟩) hS (fun q _ h => hF q h) hF (fun  u9 t H4 locs ht hvm hw hB hz1 hk1 hS => ?_)
  try dsimp only at hw hB
  rw [ht] at hB
  cases hw
  have hP := wrk (w2 := wMo cI aM u9 hs) hP hD [0, 1, 2, 3, 4, 5, 6, 7, 8] rfl (by decide) hk1 hB rfl rfl
  have hD := D_addr (w1 := wMo cI aM u9 hs) hD rfl
  refine lv_iload hx hb dX7_soundWith_29 (lv_at hl 0 rfl) ?_
  exact W.zret (v := r5) (ty := .boolean) hx hb hr nb8 (fun t ht hW => ⟨⟨r5, u9, rfl, ⟨Option.some.inj hR, nb8⟩, P_at ht hP⟩, hS.F ht⟩) hS.2.2 dX7_soundWith_31
abbrev rm_X7_reason : Room := { frames := 6, cells := 0, slots := 0, locals := 139 }
abbrev q_X7_reason (dC : Nat → ClassId) (dI : Nat → Nat → Nat) (cI cZ cS : ClassId) (aM : Nat → Nat) (hs : Int64) (res : Int32 × Pic) (A : Nat → Prop) : Array Value → State → Outcome → State → Prop := va_Qi (fun (r : Int32) (u : Pic) => (r, u) = res) (fun u t => va_P (dC, dI) vwCl (wMo cI aM u hs) t.heap) A
set_option maxHeartbeats 4000000 in
set_option maxRecDepth 100000 in
theorem met_X7_reason (l : Launch) (dC : Nat → ClassId) (dI : Nat → Nat → Nat) (cI cZ cS : ClassId) (aM : Nat → Nat) (M : Pic) (hs : Int64) (sz : Nat) (p1 : Int32) (p2 : Int32) (p3 : Int32) (res : Int32 × Pic) (hR : f7_reason M p1 p2 p3 = some res) : Met l yX7_reason wsX7_reason rm_X7_reason (va_Pc [.ref (aM 0), .int p1, .int p2, .int p3] (pW (dC, dI) (tyS cI cZ cS) (wMo cI aM M hs) sz)) (q_X7_reason dC dI cI cZ cS aM hs res (va_A (wMo cI aM M hs) sz)) 0 0 (va_A (wMo cI aM M hs) sz) := by
  refine Met.ofW (cc := cX7_reason) (maxL := 4) (ret := (some .int)) (by decide) rfl ?_
  intro p e s m args below meth c s₁ B hml hv
  obtain ⟨rfl, hsz, hP, hK, hD0, hN⟩ := hv
  have hx := B.exec
  have hb := B.bytes
  have hr := B.returns
  have hts := atoms_spec (ws := wsX7_reason) B.pre
  have hown : s.vm.findClass RX7 = some m.cls := findClass_of_methodNamed B.named
  have hlocks := B.notSynchronized
  subst hsz
  have hD := hD0.self (sz := s.heap.size)
  generalize hAe : va_A (wMo cI aM M hs) s.heap.size = A at hD ⊢
  have hA : ∀ q : Nat, s.heap.size ≤ q → A q := fun q h => by rw [← hAe]; exact Or.inr h
  have hS : va_S A s.heap s.heap [] := va_S.rf
  have hP : va_P (dC, dI) vwCl (wMo cI aM M hs) s.heap := hP
  rw [f7_reason] at hR
  have hin7 : ∀ w ∈ wsX70, w ∈ wsX7_reason := by decide +kernel
  have hl := lv_entry ([.ref (aM 0), .int p1, .int p2, .int p3]) (n := 4) (Nat.le_of_ble_eq_true rfl)
  rw [lg_entry_eq]
  generalize (lg_sl ([.ref (aM 0), .int p1, .int p2, .int p3]) ++ List.replicate (4 - (lg_sl ([.ref (aM 0), .int p1, .int p2, .int p3])).length) Slot.unset).toArray = ls at hl ⊢
  have hl : lv_has ls 4 [(0, .ref (aM 0)), (1, .int p1), (2, .int p2), (3, .int p3)] := hl
  refine lv_aload_n hx hb dX7_reason_0 rfl (lv_at hl 0 rfl) ?_
  refine lv_iload_n hx hb dX7_reason_1 rfl (lv_at hl 1 rfl) ?_
  refine lv_iload_n hx hb dX7_reason_2 rfl (lv_at hl 2 rfl) ?_
  obtain ⟨r1, hc2, hR⟩ := ob1_e hR
  refine va_calli (va_runV (As := [.int p1, .int p2]) (rest := []) ⟨hx, hb, hml, hown, hts⟩ (met_X7_at l dC dI cI cZ cS aM M hs s.heap.size p1 p2 r1 hc2) (cwV 2 hts gX7_reason_X7_at rfl rfl rfl (by decide +kernel) ⟨Nat.le_of_ble_eq_true rfl, Nat.le_of_ble_eq_true rfl⟩) (pV (wc := wMo cI aM M hs) (ci := 7) (q0 := 0) hK hP hD hN [0, 1, 2, 3, 4, 5, 6, 7, 8] rfl (by decide) rfl rfl) rfl rfl hl.1 rfl (lv_room (Nat.le_of_ble_eq_true rfl)) dX7_reason_3 ⟨Nat.zero_le _, Nat.zero_le _⟩) hS (fun q _ h => a0_in hS hA q h) (a0_in hS hA) (fun r1 u t H1 locs ht hvm hw hB hz1 hk1 hS => ?_)
  cases hw
  have hP := rdk hP hk1
  refine lv_iconst (v := (-1 : Int32)) hx hb dX7_reason_6 (by decide) ?_
  refine lv_icmp_eq (tgt := 12) hx hb dX7_reason_7 (by decide) (fun c_3 => ?_) (fun c_3 => ?_)
  · rw [if_pos c_3] at hR
    refine lv_aload_n hx hb dX7_reason_12 rfl (lv_at hl 0 rfl) ?_
    refine lv_iload_n hx hb dX7_reason_13 rfl (lv_at hl 3 rfl) ?_
    refine lv_iconst (v := (0 : Int32)) hx hb dX7_reason_14 (by decide) ?_
    obtain ⟨r4, hc5, hR⟩ := ob1_e hR
    refine va_calli (va_runV (As := [.int p3, .int (0 : Int32)]) (rest := []) ⟨hx, hb, hml, hown, hts⟩ (met_X7_of l dC dI cI cZ cS aM M hs H1.size p3 (0 : Int32) r4 hc5) (cwV 2 hts gX7_reason_X7_of rfl rfl rfl (by decide +kernel) ⟨Nat.le_of_ble_eq_true rfl, Nat.le_of_ble_eq_true rfl⟩) (pV (wc := wMo cI aM M hs) (ci := 7) (q0 := 0) hK hP hD hN [0, 1, 2, 3, 4, 5, 6, 7, 8] rfl (by decide) rfl rfl) rfl rfl hl.1 rfl (lv_room (Nat.le_of_ble_eq_true rfl)) dX7_reason_15 ⟨Nat.zero_le _, Nat.zero_le _⟩) hS (fun q _ h => a0_in hS hA q h) (a0_in hS hA) (fun r4 u t H2 locs ht hvm hw hB hz1 hk1 hS => ?_)
    cases hw
    have hP := rdk hP hk1
    refine lv_iload_n hx hb dX7_reason_18 rfl (lv_at hl 2 rfl) ?_
    refine lv_icmp_eq (tgt := 24) hx hb dX7_reason_19 (by decide) (fun c_6 => ?_) (fun c_6 => ?_)
    · rw [if_pos c_6] at hR
      refine lv_aload_n hx hb dX7_reason_24 rfl (lv_at hl 0 rfl) ?_
      refine lv_iload_n hx hb dX7_reason_25 rfl (lv_at hl 1 rfl) ?_
      refine lv_iload_n hx hb dX7_reason_26 rfl (lv_at hl 3 rfl) ?_
      obtain ⟨r7, hc8, hR⟩ := ob1_e hR
      refine va_calli (va_runV (As := [.int p1, .int p3]) (rest := []) ⟨hx, hb, hml, hown, hts⟩ (met_X7_isVetoed l dC dI cI cZ cS aM M hs H2.size p1 p3 r7 hc8) (cwV 2 hts gX7_reason_X7_isVetoed rfl rfl rfl (by decide +kernel) ⟨Nat.le_of_ble_eq_true rfl, Nat.le_of_ble_eq_true rfl⟩) (pV (wc := wMo cI aM M hs) (ci := 7) (q0 := 0) hK hP hD hN [0, 1, 2, 3, 4, 5, 6, 7, 8] rfl (by decide) rfl rfl) rfl rfl hl.1 rfl (lv_room (Nat.le_of_ble_eq_true rfl)) dX7_reason_27 ⟨Nat.zero_le _, Nat.zero_le _⟩) hS (fun q _ h => a0_in hS hA q h) (a0_in hS hA) (fun r7 u t H3 locs ht hvm hw hB hz1 hk1 hS => ?_)
      obtain ⟨hw, nb9⟩ := hw
      cases hw
      have hP := rdk hP hk1
      refine lv_if_eq (tgt := 35) hx hb dX7_reason_30 (by decide) (fun c_10 => ?_) (fun c_10 => ?_)
      · rw [if_pos c_10] at hR
        refine lv_aload_n hx hb dX7_reason_35 rfl (lv_at hl 0 rfl) ?_
        refine lv_iload_n hx hb dX7_reason_36 rfl (lv_at hl 1 rfl) ?_
        refine lv_bipush (v := (7 : Int32)) hx hb dX7_reason_37 (by decide) ?_
        refine lv_idiv hx hb dX7_reason_39 (by decide) ?_
        obtain ⟨r11, hc12, hR⟩ := ob1_e hR
        refine va_calli (va_runV (As := [.int (p1 / (7 : Int32))]) (rest := []) ⟨hx, hb, hml, hown, hts⟩ (met_X7_weekCost l dC dI cI cZ cS aM M hs H3.size (p1 / (7 : Int32)) r11 hc12) (cwV 1 hts gX7_reason_X7_weekCost rfl rfl rfl (by decide +kernel) ⟨Nat.le_of_ble_eq_true rfl, Nat.le_of_ble_eq_true rfl⟩) (pV (wc := wMo cI aM M hs) (ci := 7) (q0 := 0) hK hP hD hN [0, 1, 2, 3, 4, 5, 6, 7, 8] rfl (by decide) rfl rfl) rfl rfl hl.1 rfl (lv_room (Nat.le_of_ble_eq_true rfl)) dX7_reason_40 ⟨Nat.zero_le _, Nat.zero_le _⟩) hS (fun q _ h => a0_in hS hA q h) (a0_in hS hA) (fun r11 u t H4 locs ht hvm hw hB hz1 hk1 hS => ?_)
        cases hw
        have hP := rdk hP hk1
        refine lv_aload_n hx hb dX7_reason_43 rfl (lv_at hl 0 rfl) ?_
        refine lv_iload_n hx hb dX7_reason_44 rfl (lv_at hl 3 rfl) ?_
        refine lv_iconst (v := (1 : Int32)) hx hb dX7_reason_45 (by decide) ?_
        obtain ⟨r13, hc14, hR⟩ := ob1_e hR
        refine va_calli (va_runV (As := [.int p3, .int (1 : Int32)]) (rest := [.int r11]) ⟨hx, hb, hml, hown, hts⟩ (met_X7_of l dC dI cI cZ cS aM M hs H4.size p3 (1 : Int32) r13 hc14) (cwV 2 hts gX7_reason_X7_of rfl rfl rfl (by decide +kernel) ⟨Nat.le_of_ble_eq_true rfl, Nat.le_of_ble_eq_true rfl⟩) (pV (wc := wMo cI aM M hs) (ci := 7) (q0 := 0) hK hP hD hN [0, 1, 2, 3, 4, 5, 6, 7, 8] rfl (by decide) rfl rfl) rfl rfl hl.1 rfl (lv_room (Nat.le_of_ble_eq_true rfl)) dX7_reason_46 ⟨Nat.zero_le _, Nat.zero_le _⟩) hS (fun q _ h => a0_in hS hA q h) (a0_in hS hA) (fun r13 u t H5 locs ht hvm hw hB hz1 hk1 hS => ?_)
        cases hw
        have hP := rdk hP hk1
        refine lv_iadd hx hb dX7_reason_49 ?_
        refine lv_aload_n hx hb dX7_reason_50 rfl (lv_at hl 0 rfl) ?_
        refine va_get (D := (dC, dI)) (ci := 7) (v := .ref (aM 1)) (C := RX7) (T := TX7) (N := 15) hx hb hts hin7 hown hK hP 0 rfl rfl 0 (by decide) (hw_ hts 1 rfl) (fun _ h9 => h9) rfl dX7_reason_51 ?_
        refine lv_iconst (v := (2 : Int32)) hx hb dX7_reason_54 (by decide) ?_
        refine va_iald (f := (M 0)) hx hb hK hP 1 0 rfl rfl (vp_in_nI (n := 2) (by decide) (by decide)) dX7_reason_55 ?_
        refine lv_icmp_le (tgt := 63) hx hb dX7_reason_56 (by decide) (fun c_15 => ?_) (fun c_15 => ?_)
        · rw [if_pos c_15] at hR
          refine lv_aload_n hx hb dX7_reason_63 rfl (lv_at hl 0 rfl) ?_
          refine lv_iload_n hx hb dX7_reason_64 rfl (lv_at hl 1 rfl) ?_
          refine lv_iload_n hx hb dX7_reason_65 rfl (lv_at hl 2 rfl) ?_
          refine lv_iload_n hx hb dX7_reason_66 rfl (lv_at hl 3 rfl) ?_
          obtain ⟨r16, u17, hc18, hR⟩ := ob2_e hR
          have hF := va_free (wc := wMo cI aM M hs) hD hS hA [0, 1, 2, 3, 4, 5, 6, 7, 8] rfl
          refine va_calli (va_runV (As := [.int p1, .int p2, .int p3]) (rest := []) ⟨hx, hb, hml, hown, hts⟩ (met_X7_soundWith l dC dI cI cZ cS aM M hs H5.size p1 p2 p3 (r16, u17) hc18) (cwV 3 hts gX7_reason_X7_soundWith rfl rfl rfl (by decide +kernel) ⟨Nat.le_of_ble_eq_true rfl, Nat.le_of_ble_eq_true rfl⟩) (pV (wc := wMo cI aM M hs) (ci := 7) (q0 := 0) hK hP hD hN [0, 1, 2, 3, 4, 5, 6, 7, 8] rfl (by decide) rfl rfl) rfl rfl hl.1 rfl (lv_room (Nat.le_of_ble_eq_true rfl)) dX7_reason_67 ⟨Nat.zero_le _, Nat.zero_le _⟩) hS (fun q _ h => hF q h) hF (fun r16 u17 t H6 locs ht hvm hw hB hz1 hk1 hS => ?_)
          obtain ⟨hw, nb19⟩ := hw
          try dsimp only at hw hB
          rw [ht] at hB
          cases hw
          have hP := wrk (w2 := wMo cI aM u17 hs) hP hD [0, 1, 2, 3, 4, 5, 6, 7, 8] rfl (by decide) hk1 hB rfl rfl
          have hD := D_addr (w1 := wMo cI aM u17 hs) hD rfl
          refine lv_if_eq (tgt := 77) hx hb dX7_reason_70 (by decide) (fun c_20 => ?_) (fun c_20 => ?_)
          · rw [if_pos c_20] at hR
            refine lv_iconst (v := (5 : Int32)) hx hb dX7_reason_77 (by decide) ?_
            exact W.iret (v := (5 : Int32)) hx hb hr (fun t ht hW => ⟨⟨(5 : Int32), u17, rfl, Option.some.inj hR, P_at ht hP⟩, hS.F ht⟩) hS.2.2 dX7_reason_78
          · rw [if_neg c_20] at hR
            refine lv_iconst (v := (0 : Int32)) hx hb dX7_reason_73 (by decide) ?_
            refine lv_goto (tgt := 78) hx hb dX7_reason_74 (by decide) ?_
            exact W.iret (v := (0 : Int32)) hx hb hr (fun t ht hW => ⟨⟨(0 : Int32), u17, rfl, Option.some.inj hR, P_at ht hP⟩, hS.F ht⟩) hS.2.2 dX7_reason_78
        · rw [if_neg c_15] at hR
          refine lv_iconst (v := (4 : Int32)) hx hb dX7_reason_59 (by decide) ?_
          refine lv_goto (tgt := 78) hx hb dX7_reason_60 (by decide) ?_
          exact W.iret (v := (4 : Int32)) hx hb hr (fun t ht hW => ⟨⟨(4 : Int32), M, rfl, Option.some.inj hR, P_at ht hP⟩, hS.F ht⟩) hS.2.2 dX7_reason_78
      · rw [if_neg c_10] at hR
        refine lv_iconst (v := (3 : Int32)) hx hb dX7_reason_33 (by decide) ?_
        exact W.iret (v := (3 : Int32)) hx hb hr (fun t ht hW => ⟨⟨(3 : Int32), M, rfl, Option.some.inj hR, P_at ht hP⟩, hS.F ht⟩) hS.2.2 dX7_reason_34
    · rw [if_neg c_6] at hR
      refine lv_iconst (v := (2 : Int32)) hx hb dX7_reason_22 (by decide) ?_
      exact W.iret (v := (2 : Int32)) hx hb hr (fun t ht hW => ⟨⟨(2 : Int32), M, rfl, Option.some.inj hR, P_at ht hP⟩, hS.F ht⟩) hS.2.2 dX7_reason_23
  · rw [if_neg c_3] at hR
    refine lv_iconst (v := (1 : Int32)) hx hb dX7_reason_10 (by decide) ?_
    exact W.iret (v := (1 : Int32)) hx hb hr (fun t ht hW => ⟨⟨(1 : Int32), M, rfl, Option.some.inj hR, P_at ht hP⟩, hS.F ht⟩) hS.2.2 dX7_reason_11
abbrev rm_X7_canServe : Room := { frames := 7, cells := 0, slots := 0, locals := 162 }
abbrev q_X7_canServe (dC : Nat → ClassId) (dI : Nat → Nat → Nat) (cI cZ cS : ClassId) (aM : Nat → Nat) (hs : Int64) (res : Int32 × Pic) (A : Nat → Prop) : Array Value → State → Outcome → State → Prop := va_Qi (fun (r : Int32) (u : Pic) => (r, u) = res ∧ narrow .boolean (.int r) = .int r) (fun u t => va_P (dC, dI) vwCl (wMo cI aM u hs) t.heap) A
set_option maxHeartbeats 4000000 in
set_option maxRecDepth 100000 in
theorem met_X7_canServe (l : Launch) (dC : Nat → ClassId) (dI : Nat → Nat → Nat) (cI cZ cS : ClassId) (aM : Nat → Nat) (M : Pic) (hs : Int64) (sz : Nat) (p1 : Int32) (p2 : Int32) (res : Int32 × Pic) (hR : f7_canServe M p1 p2 = some res) : Met l yX7_canServe wsX7_canServe rm_X7_canServe (va_Pc [.ref (aM 0), .int p1, .int p2] (pW (dC, dI) (tyS cI cZ cS) (wMo cI aM M hs) sz)) (q_X7_canServe dC dI cI cZ cS aM hs res (va_A (wMo cI aM M hs) sz)) 0 0 (va_A (wMo cI aM M hs) sz) := by
  refine Met.ofW (cc := cX7_canServe) (maxL := 3) (ret := (some .boolean)) (by decide) rfl ?_
  intro p e s m args below meth c s₁ B hml hv
  obtain ⟨rfl, hsz, hP, hK, hD0, hN⟩ := hv
  have hx := B.exec
  have hb := B.bytes
  have hr := B.returns
  have hts := atoms_spec (ws := wsX7_canServe) B.pre
  have hown : s.vm.findClass RX7 = some m.cls := findClass_of_methodNamed B.named
  have hlocks := B.notSynchronized
  subst hsz
  have hD := hD0.self (sz := s.heap.size)
  generalize hAe : va_A (wMo cI aM M hs) s.heap.size = A at hD ⊢
  have hA : ∀ q : Nat, s.heap.size ≤ q → A q := fun q h => by rw [← hAe]; exact Or.inr h
  have hS : va_S A s.heap s.heap [] := va_S.rf
  have hP : va_P (dC, dI) vwCl (wMo cI aM M hs) s.heap := hP
  rw [f7_canServe] at hR
  have hl := lv_entry ([.ref (aM 0), .int p1, .int p2]) (n := 3) (Nat.le_of_ble_eq_true rfl)
  rw [lg_entry_eq]
  generalize (lg_sl ([.ref (aM 0), .int p1, .int p2]) ++ List.replicate (3 - (lg_sl ([.ref (aM 0), .int p1, .int p2])).length) Slot.unset).toArray = ls at hl ⊢
  have hl : lv_has ls 3 [(0, .ref (aM 0)), (1, .int p1), (2, .int p2)] := hl
  refine lv_aload_n hx hb dX7_canServe_0 rfl (lv_at hl 0 rfl) ?_
  refine lv_iload_n hx hb dX7_canServe_1 rfl (lv_at hl 1 rfl) ?_
  refine lv_aload_n hx hb dX7_canServe_2 rfl (lv_at hl 0 rfl) ?_
  refine lv_iload_n hx hb dX7_canServe_3 rfl (lv_at hl 2 rfl) ?_
  refine lv_iconst (v := (0 : Int32)) hx hb dX7_canServe_4 (by decide) ?_
  obtain ⟨r1, hc2, hR⟩ := ob1_e hR
  refine va_calli (va_runV (As := [.int p2, .int (0 : Int32)]) (rest := [.int p1, .ref (aM 0)]) ⟨hx, hb, hml, hown, hts⟩ (met_X7_of l dC dI cI cZ cS aM M hs s.heap.size p2 (0 : Int32) r1 hc2) (cwV 2 hts gX7_canServe_X7_of rfl rfl rfl (by decide +kernel) ⟨Nat.le_of_ble_eq_true rfl, Nat.le_of_ble_eq_true rfl⟩) (pV (wc := wMo cI aM M hs) (ci := 7) (q0 := 0) hK hP hD hN [0, 1, 2, 3, 4, 5, 6, 7, 8] rfl (by decide) rfl rfl) rfl rfl hl.1 rfl (lv_room (Nat.le_of_ble_eq_true rfl)) dX7_canServe_5 ⟨Nat.zero_le _, Nat.zero_le _⟩) hS (fun q _ h => a0_in hS hA q h) (a0_in hS hA) (fun r1 u t H1 locs ht hvm hw hB hz1 hk1 hS => ?_)
  cases hw
  have hP := rdk hP hk1
  refine lv_iload_n hx hb dX7_canServe_8 rfl (lv_at hl 2 rfl) ?_
  obtain ⟨r3, u4, hc5, hR⟩ := ob2_e hR
  have hF := va_free (wc := wMo cI aM M hs) hD hS hA [0, 1, 2, 3, 4, 5, 6, 7, 8] rfl
  refine va_calli (va_runV (As := [.int p1, .int r1, .int p2]) (rest := []) ⟨hx, hb, hml, hown, hts⟩ (met_X7_reason l dC dI cI cZ cS aM M hs H1.size p1 r1 p2 (r3, u4) hc5) (cwV 3 hts gX7_canServe_X7_reason rfl rfl rfl (by decide +kernel) ⟨Nat.le_of_ble_eq_true rfl, Nat.le_of_ble_eq_true rfl⟩) (pV (wc := wMo cI aM M hs) (ci := 7) (q0 := 0) hK hP hD hN [0, 1, 2, 3, 4, 5, 6, 7, 8] rfl (by decide) rfl rfl) rfl rfl hl.1 rfl (lv_room (Nat.le_of_ble_eq_true rfl)) dX7_canServe_9 ⟨Nat.zero_le _, Nat.zero_le _⟩) hS (fun q _ h => hF q h) hF (fun r3 u4 t H2 locs ht hvm hw hB hz1 hk1 hS => ?_)
  try dsimp only at hw hB
  rw [ht] at hB
  cases hw
  have hP := wrk (w2 := wMo cI aM u4 hs) hP hD [0, 1, 2, 3, 4, 5, 6, 7, 8] rfl (by decide) hk1 hB rfl rfl
  have hD := D_addr (w1 := wMo cI aM u4 hs) hD rfl
  refine lv_if_ne (tgt := 19) hx hb dX7_canServe_12 (by decide) (fun c_6 => ?_) (fun c_6 => ?_)
  · rw [if_neg c_6] at hR
    refine lv_iconst (v := (0 : Int32)) hx hb dX7_canServe_19 (by decide) ?_
    exact W.zret (v := (0 : Int32)) (ty := .boolean) hx hb hr rfl (fun t ht hW => ⟨⟨(0 : Int32), u4, rfl, ⟨Option.some.inj hR, rfl⟩, P_at ht hP⟩, hS.F ht⟩) hS.2.2 dX7_canServe_20
  · rw [if_pos c_6] at hR
    refine lv_iconst (v := (1 : Int32)) hx hb dX7_canServe_15 (by decide) ?_
    refine lv_goto (tgt := 20) hx hb dX7_canServe_16 (by decide) ?_
    exact W.zret (v := (1 : Int32)) (ty := .boolean) hx hb hr rfl (fun t ht hW => ⟨⟨(1 : Int32), u4, rfl, ⟨Option.some.inj hR, rfl⟩, P_at ht hP⟩, hS.F ht⟩) hS.2.2 dX7_canServe_20
abbrev rm_X7_serve : Room := { frames := 8, cells := 0, slots := 0, locals := 184 }
abbrev q_X7_serve (dC : Nat → ClassId) (dI : Nat → Nat → Nat) (cI cZ cS : ClassId) (aM : Nat → Nat) (hs : Int64) (res : Int32 × Pic) (A : Nat → Prop) : Array Value → State → Outcome → State → Prop := va_Qi (fun (r : Int32) (u : Pic) => (r, u) = res) (fun u t => va_P (dC, dI) vwCl (wMo cI aM u hs) t.heap) A
set_option maxHeartbeats 4000000 in
set_option maxRecDepth 100000 in
theorem met_X7_serve (l : Launch) (dC : Nat → ClassId) (dI : Nat → Nat → Nat) (cI cZ cS : ClassId) (aM : Nat → Nat) (M : Pic) (hs : Int64) (sz : Nat) (p1 : Int32) (p2 : Int32) (res : Int32 × Pic) (hR : f7_serve M p1 p2 = some res) : Met l yX7_serve wsX7_serve rm_X7_serve (va_Pc [.ref (aM 0), .int p1, .int p2] (pW (dC, dI) (tyS cI cZ cS) (wMo cI aM M hs) sz)) (q_X7_serve dC dI cI cZ cS aM hs res (va_A (wMo cI aM M hs) sz)) 0 0 (va_A (wMo cI aM M hs) sz) := by
  refine Met.ofW (cc := cX7_serve) (maxL := 3) (ret := (some .int)) (by decide) rfl ?_
  intro p e s m args below meth c s₁ B hml hv
  obtain ⟨rfl, hsz, hP, hK, hD0, hN⟩ := hv
  have hx := B.exec
  have hb := B.bytes
  have hr := B.returns
  have hts := atoms_spec (ws := wsX7_serve) B.pre
  have hown : s.vm.findClass RX7 = some m.cls := findClass_of_methodNamed B.named
  have hlocks := B.notSynchronized
  subst hsz
  have hD := hD0.self (sz := s.heap.size)
  generalize hAe : va_A (wMo cI aM M hs) s.heap.size = A at hD ⊢
  have hA : ∀ q : Nat, s.heap.size ≤ q → A q := fun q h => by rw [← hAe]; exact Or.inr h
  have hS : va_S A s.heap s.heap [] := va_S.rf
  have hP : va_P (dC, dI) vwCl (wMo cI aM M hs) s.heap := hP
  rw [f7_serve] at hR
  have hin7 : ∀ w ∈ wsX70, w ∈ wsX7_serve := by decide +kernel
  have hl := lv_entry ([.ref (aM 0), .int p1, .int p2]) (n := 3) (Nat.le_of_ble_eq_true rfl)
  rw [lg_entry_eq]
  generalize (lg_sl ([.ref (aM 0), .int p1, .int p2]) ++ List.replicate (3 - (lg_sl ([.ref (aM 0), .int p1, .int p2])).length) Slot.unset).toArray = ls at hl ⊢
  have hl : lv_has ls 3 [(0, .ref (aM 0)), (1, .int p1), (2, .int p2)] := hl
  refine lv_aload_n hx hb dX7_serve_0 rfl (lv_at hl 0 rfl) ?_
  refine lv_iload_n hx hb dX7_serve_1 rfl (lv_at hl 1 rfl) ?_
  refine va_calli (va_runS (As := [.int p1]) (rest := [.ref (aM 0)]) ⟨hx, hb, hml, hown, hts⟩ (met_X7_isDay l dC dI cI cZ cS s.heap.size p1) (va_cwS 1 hts gX7_serve_X7_isDay rfl rfl rfl (by decide +kernel) ⟨Nat.le_of_ble_eq_true rfl, Nat.le_of_ble_eq_true rfl⟩) (pS (wc := []) hK hP hD hN [] rfl (by decide)) rfl rfl hl.1 rfl (lv_room (Nat.le_of_ble_eq_true rfl)) dX7_serve_2 ⟨Nat.zero_le _, Nat.zero_le _⟩) hS (fun q _ h => a0_in hS hA q h) (a0_in hS hA) (fun r1 u t H1 locs ht hvm hw hB hz1 hk1 hS => ?_)
  obtain ⟨hw, nb2⟩ := hw
  subst hw
  have hP := rdk hP hk1
  refine lv_if_eq (tgt := 20) hx hb dX7_serve_5 (by decide) (fun c_3 => ?_) (fun c_3 => ?_)
  · rw [if_pos c_3] at hR
    refine lv_iconst (v := (1 : Int32)) hx hb dX7_serve_20 (by decide) ?_
    refine va_put (D := (dC, dI)) (ci := 7) (v := .int (1 : Int32)) (ty := .int) (C := RX7) (T := TX7) (N := 15) hx hb hts hin7 tyX7 tyX7_ok nmX7 hown hK hP hD hS 0 rfl rfl 7 (by decide) (hw_ hts 1 rfl) (fun _ h9 => h9) rfl (by decide +kernel) rfl rfl (Nat.le_of_ble_eq_true rfl) dX7_serve_21 (fun H2 locs hP hD hS => ?_)
    have hP : va_P (dC, dI) vwCl (wMo cI aM (pset M 7 (fun _ => (1 : Int32))) hs) H2 := hP
    have hD : va_D A (wMo cI aM (pset M 7 (fun _ => (1 : Int32))) hs) := hD
    refine lv_aload_n hx hb dX7_serve_24 rfl (lv_at hl 0 rfl) ?_
    refine va_get (D := (dC, dI)) (ci := 7) (v := .int (1 : Int32)) (C := RX7) (T := TX7) (N := 15) hx hb hts hin7 hown hK hP 0 rfl rfl 7 (by decide) (hw_ hts 1 rfl) (fun _ h9 => h9) rfl dX7_serve_25 ?_
    refine lv_if_ne (tgt := 49) hx hb dX7_serve_28 (by decide) (fun _ => ?_) (fun q => absurd q (by decide))
    refine lv_aload_n hx hb dX7_serve_49 rfl (lv_at hl 0 rfl) ?_
    refine va_get (D := (dC, dI)) (ci := 7) (v := .int (1 : Int32)) (C := RX7) (T := TX7) (N := 15) hx hb hts hin7 hown hK hP 0 rfl rfl 7 (by decide) (hw_ hts 1 rfl) (fun _ h9 => h9) rfl dX7_serve_50 ?_
    refine lv_if_le (tgt := 58) hx hb dX7_serve_53 (by decide) (fun q => absurd q (by decide)) (fun _ => ?_)
    refine lv_iconst (v := (0 : Int32)) hx hb dX7_serve_56 (by decide) ?_
    exact W.iret (v := (0 : Int32)) hx hb hr (fun t ht hW => ⟨⟨(0 : Int32), (pset M 7 (fun _ => (1 : Int32))), rfl, Option.some.inj hR, P_at ht hP⟩, hS.F ht⟩) hS.2.2 dX7_serve_57
  · rw [if_neg c_3] at hR
    refine lv_aload_n hx hb dX7_serve_8 rfl (lv_at hl 0 rfl) ?_
    refine lv_iload_n hx hb dX7_serve_9 rfl (lv_at hl 2 rfl) ?_
    refine va_calli (va_runV (As := [.int p2]) (rest := [.ref (aM 0)]) ⟨hx, hb, hml, hown, hts⟩ (met_X7_isDish l dC dI cI cZ cS aM M hs H1.size p2) (cwV 1 hts gX7_serve_X7_isDish rfl rfl rfl (by decide +kernel) ⟨Nat.le_of_ble_eq_true rfl, Nat.le_of_ble_eq_true rfl⟩) (pV (wc := wMo cI aM M hs) (ci := 7) (q0 := 0) hK hP hD hN [0, 1, 2, 3, 4, 5, 6, 7, 8] rfl (by decide) rfl rfl) rfl rfl hl.1 rfl (lv_room (Nat.le_of_ble_eq_true rfl)) dX7_serve_10 ⟨Nat.zero_le _, Nat.zero_le _⟩) hS (fun q _ h => a0_in hS hA q h) (a0_in hS hA) (fun r4 u t H2 locs ht hvm hw hB hz1 hk1 hS => ?_)
    obtain ⟨hw, nb5⟩ := hw
    subst hw
    have hP := rdk hP hk1
    refine lv_if_eq (tgt := 20) hx hb dX7_serve_13 (by decide) (fun c_6 => ?_) (fun c_6 => ?_)
    · rw [if_pos c_6] at hR
      refine lv_iconst (v := (1 : Int32)) hx hb dX7_serve_20 (by decide) ?_
      refine va_put (D := (dC, dI)) (ci := 7) (v := .int (1 : Int32)) (ty := .int) (C := RX7) (T := TX7) (N := 15) hx hb hts hin7 tyX7 tyX7_ok nmX7 hown hK hP hD hS 0 rfl rfl 7 (by decide) (hw_ hts 1 rfl) (fun _ h9 => h9) rfl (by decide +kernel) rfl rfl (Nat.le_of_ble_eq_true rfl) dX7_serve_21 (fun H3 locs hP hD hS => ?_)
      have hP : va_P (dC, dI) vwCl (wMo cI aM (pset M 7 (fun _ => (1 : Int32))) hs) H3 := hP
      have hD : va_D A (wMo cI aM (pset M 7 (fun _ => (1 : Int32))) hs) := hD
      refine lv_aload_n hx hb dX7_serve_24 rfl (lv_at hl 0 rfl) ?_
      refine va_get (D := (dC, dI)) (ci := 7) (v := .int (1 : Int32)) (C := RX7) (T := TX7) (N := 15) hx hb hts hin7 hown hK hP 0 rfl rfl 7 (by decide) (hw_ hts 1 rfl) (fun _ h9 => h9) rfl dX7_serve_25 ?_
      refine lv_if_ne (tgt := 49) hx hb dX7_serve_28 (by decide) (fun _ => ?_) (fun q => absurd q (by decide))
      refine lv_aload_n hx hb dX7_serve_49 rfl (lv_at hl 0 rfl) ?_
      refine va_get (D := (dC, dI)) (ci := 7) (v := .int (1 : Int32)) (C := RX7) (T := TX7) (N := 15) hx hb hts hin7 hown hK hP 0 rfl rfl 7 (by decide) (hw_ hts 1 rfl) (fun _ h9 => h9) rfl dX7_serve_50 ?_
      refine lv_if_le (tgt := 58) hx hb dX7_serve_53 (by decide) (fun q => absurd q (by decide)) (fun _ => ?_)
      refine lv_iconst (v := (0 : Int32)) hx hb dX7_serve_56 (by decide) ?_
      exact W.iret (v := (0 : Int32)) hx hb hr (fun t ht hW => ⟨⟨(0 : Int32), (pset M 7 (fun _ => (1 : Int32))), rfl, Option.some.inj hR, P_at ht hP⟩, hS.F ht⟩) hS.2.2 dX7_serve_57
    · rw [if_neg c_6] at hR
      refine lv_iconst (v := (0 : Int32)) hx hb dX7_serve_16 (by decide) ?_
      refine lv_goto (tgt := 21) hx hb dX7_serve_17 (by decide) ?_
      refine va_put (D := (dC, dI)) (ci := 7) (v := .int (0 : Int32)) (ty := .int) (C := RX7) (T := TX7) (N := 15) hx hb hts hin7 tyX7 tyX7_ok nmX7 hown hK hP hD hS 0 rfl rfl 7 (by decide) (hw_ hts 1 rfl) (fun _ h9 => h9) rfl (by decide +kernel) rfl rfl (Nat.le_of_ble_eq_true rfl) dX7_serve_21 (fun H3 locs hP hD hS => ?_)
      have hP : va_P (dC, dI) vwCl (wMo cI aM (pset M 7 (fun _ => (0 : Int32))) hs) H3 := hP
      have hD : va_D A (wMo cI aM (pset M 7 (fun _ => (0 : Int32))) hs) := hD
      refine lv_aload_n hx hb dX7_serve_24 rfl (lv_at hl 0 rfl) ?_
      refine va_get (D := (dC, dI)) (ci := 7) (v := .int (0 : Int32)) (C := RX7) (T := TX7) (N := 15) hx hb hts hin7 hown hK hP 0 rfl rfl 7 (by decide) (hw_ hts 1 rfl) (fun _ h9 => h9) rfl dX7_serve_25 ?_
      refine lv_if_ne (tgt := 49) hx hb dX7_serve_28 (by decide) (fun q => absurd (by decide) q) (fun _ => ?_)
      refine lv_aload_n hx hb dX7_serve_31 rfl (lv_at hl 0 rfl) ?_
      refine lv_aload_n hx hb dX7_serve_32 rfl (lv_at hl 0 rfl) ?_
      refine lv_iload_n hx hb dX7_serve_33 rfl (lv_at hl 1 rfl) ?_
      refine lv_iload_n hx hb dX7_serve_34 rfl (lv_at hl 2 rfl) ?_
      obtain ⟨r7, u8, hc9, hR⟩ := ob2_e hR
      have hF := va_free (wc := wMo cI aM (pset M 7 (fun _ => (0 : Int32))) hs) hD hS hA [0, 1, 2, 3, 4, 5, 6, 7, 8] rfl
      refine va_calli (va_runV (As := [.int p1, .int p2]) (rest := [.ref (aM 0)]) ⟨hx, hb, hml, hown, hts⟩ (met_X7_canServe l dC dI cI cZ cS aM (pset M 7 (fun _ => (0 : Int32))) hs H3.size p1 p2 (r7, u8) hc9) (cwV 2 hts gX7_serve_X7_canServe rfl rfl rfl (by decide +kernel) ⟨Nat.le_of_ble_eq_true rfl, Nat.le_of_ble_eq_true rfl⟩) (pV (wc := wMo cI aM (pset M 7 (fun _ => (0 : Int32))) hs) (ci := 7) (q0 := 0) hK hP hD hN [0, 1, 2, 3, 4, 5, 6, 7, 8] rfl (by decide) rfl rfl) rfl rfl hl.1 rfl (lv_room (Nat.le_of_ble_eq_true rfl)) dX7_serve_35 ⟨Nat.zero_le _, Nat.zero_le _⟩) hS (fun q _ h => hF q h) hF (fun r7 u8 t H4 locs ht hvm hw hB hz1 hk1 hS => ?_)
      obtain ⟨hw, nb10⟩ := hw
      try dsimp only at hw hB
      rw [ht] at hB
      cases hw
      have hP := wrk (w2 := wMo cI aM u8 hs) hP hD [0, 1, 2, 3, 4, 5, 6, 7, 8] rfl (by decide) hk1 hB rfl rfl
      have hD := D_addr (w1 := wMo cI aM u8 hs) hD rfl
      refine lv_if_eq (tgt := 45) hx hb dX7_serve_38 (by decide) (fun c_11 => ?_) (fun c_11 => ?_)
      · rw [if_pos c_11] at hR
        refine lv_iconst (v := (2 : Int32)) hx hb dX7_serve_45 (by decide) ?_
        refine va_put (D := (dC, dI)) (ci := 7) (v := .int (2 : Int32)) (ty := .int) (C := RX7) (T := TX7) (N := 15) hx hb hts hin7 tyX7 tyX7_ok nmX7 hown hK hP hD hS 0 rfl rfl 7 (by decide) (hw_ hts 1 rfl) (fun _ h9 => h9) rfl (by decide +kernel) rfl rfl (Nat.le_of_ble_eq_true rfl) dX7_serve_46 (fun H5 locs hP hD hS => ?_)
        have hP : va_P (dC, dI) vwCl (wMo cI aM (pset u8 7 (fun _ => (2 : Int32))) hs) H5 := hP
        have hD : va_D A (wMo cI aM (pset u8 7 (fun _ => (2 : Int32))) hs) := hD
        refine lv_aload_n hx hb dX7_serve_49 rfl (lv_at hl 0 rfl) ?_
        refine va_get (D := (dC, dI)) (ci := 7) (v := .int (2 : Int32)) (C := RX7) (T := TX7) (N := 15) hx hb hts hin7 hown hK hP 0 rfl rfl 7 (by decide) (hw_ hts 1 rfl) (fun _ h9 => h9) rfl dX7_serve_50 ?_
        refine lv_if_le (tgt := 58) hx hb dX7_serve_53 (by decide) (fun q => absurd q (by decide)) (fun _ => ?_)
        refine lv_iconst (v := (0 : Int32)) hx hb dX7_serve_56 (by decide) ?_
        exact W.iret (v := (0 : Int32)) hx hb hr (fun t ht hW => ⟨⟨(0 : Int32), (pset u8 7 (fun _ => (2 : Int32))), rfl, Option.some.inj hR, P_at ht hP⟩, hS.F ht⟩) hS.2.2 dX7_serve_57
      · rw [if_neg c_11] at hR
        refine lv_iconst (v := (0 : Int32)) hx hb dX7_serve_41 (by decide) ?_
        refine lv_goto (tgt := 46) hx hb dX7_serve_42 (by decide) ?_
        refine va_put (D := (dC, dI)) (ci := 7) (v := .int (0 : Int32)) (ty := .int) (C := RX7) (T := TX7) (N := 15) hx hb hts hin7 tyX7 tyX7_ok nmX7 hown hK hP hD hS 0 rfl rfl 7 (by decide) (hw_ hts 1 rfl) (fun _ h9 => h9) rfl (by decide +kernel) rfl rfl (Nat.le_of_ble_eq_true rfl) dX7_serve_46 (fun H5 locs hP hD hS => ?_)
        have hP : va_P (dC, dI) vwCl (wMo cI aM (pset u8 7 (fun _ => (0 : Int32))) hs) H5 := hP
        have hD : va_D A (wMo cI aM (pset u8 7 (fun _ => (0 : Int32))) hs) := hD
        refine lv_aload_n hx hb dX7_serve_49 rfl (lv_at hl 0 rfl) ?_
        refine va_get (D := (dC, dI)) (ci := 7) (v := .int (0 : Int32)) (C := RX7) (T := TX7) (N := 15) hx hb hts hin7 hown hK hP 0 rfl rfl 7 (by decide) (hw_ hts 1 rfl) (fun _ h9 => h9) rfl dX7_serve_50 ?_
        refine lv_if_le (tgt := 58) hx hb dX7_serve_53 (by decide) (fun _ => ?_) (fun q => absurd (by decide) q)
        refine lv_aload_n hx hb dX7_serve_58 rfl (lv_at hl 0 rfl) ?_
        obtain ⟨u12, hc13, hR⟩ := ob1_e hR
        have hF := va_free (wc := wMo cI aM (pset u8 7 (fun _ => (0 : Int32))) hs) hD hS hA [0, 1, 2, 3, 4, 5, 6, 7, 8] rfl
        refine va_callv (va_runV (As := []) (rest := []) ⟨hx, hb, hml, hown, hts⟩ (met_X7_save l dC dI cI cZ cS aM (pset u8 7 (fun _ => (0 : Int32))) hs H5.size u12 hc13) (cwV 0 hts gX7_serve_X7_save rfl rfl rfl (by decide +kernel) ⟨Nat.le_of_ble_eq_true rfl, Nat.le_of_ble_eq_true rfl⟩) (pV (wc := wMo cI aM (pset u8 7 (fun _ => (0 : Int32))) hs) (ci := 7) (q0 := 0) hK hP hD hN [0, 1, 2, 3, 4, 5, 6, 7, 8] rfl (by decide) rfl rfl) rfl rfl hl.1 rfl (lv_room (Nat.le_of_ble_eq_true rfl)) dX7_serve_59 ⟨Nat.zero_le _, Nat.zero_le _⟩) hS (fun q _ h => hF q h) hF (fun  u12 t H6 locs ht hvm hw hB hz1 hk1 hS => ?_)
        try dsimp only at hw hB
        rw [ht] at hB
        cases hw
        have hP := wrk (w2 := wMo cI aM u12 hs) hP hD [0, 1, 2, 3, 4, 5, 6, 7, 8] rfl (by decide) hk1 hB rfl rfl
        have hD := D_addr (w1 := wMo cI aM u12 hs) hD rfl
        refine lv_aload_n hx hb dX7_serve_62 rfl (lv_at hl 0 rfl) ?_
        refine lv_iload_n hx hb dX7_serve_63 rfl (lv_at hl 1 rfl) ?_
        refine lv_aload_n hx hb dX7_serve_64 rfl (lv_at hl 0 rfl) ?_
        refine lv_iload_n hx hb dX7_serve_65 rfl (lv_at hl 2 rfl) ?_
        refine lv_iconst (v := (0 : Int32)) hx hb dX7_serve_66 (by decide) ?_
        obtain ⟨r14, hc15, hR⟩ := ob1_e hR
        refine va_calli (va_runV (As := [.int p2, .int (0 : Int32)]) (rest := [.int p1, .ref (aM 0)]) ⟨hx, hb, hml, hown, hts⟩ (met_X7_of l dC dI cI cZ cS aM u12 hs H6.size p2 (0 : Int32) r14 hc15) (cwV 2 hts gX7_serve_X7_of rfl rfl rfl (by decide +kernel) ⟨Nat.le_of_ble_eq_true rfl, Nat.le_of_ble_eq_true rfl⟩) (pV (wc := wMo cI aM u12 hs) (ci := 7) (q0 := 0) hK hP hD hN [0, 1, 2, 3, 4, 5, 6, 7, 8] rfl (by decide) rfl rfl) rfl rfl hl.1 rfl (lv_room (Nat.le_of_ble_eq_true rfl)) dX7_serve_67 ⟨Nat.zero_le _, Nat.zero_le _⟩) hS (fun q _ h => a0_in hS hA q h) (a0_in hS hA) (fun r14 u t H7 locs ht hvm hw hB hz1 hk1 hS => ?_)
        cases hw
        have hP := rdk hP hk1
        refine lv_iload_n hx hb dX7_serve_70 rfl (lv_at hl 2 rfl) ?_
        obtain ⟨u16, hc17, hR⟩ := ob1_e hR
        have hF := va_free (wc := wMo cI aM u12 hs) hD hS hA [0, 1, 2, 3, 4, 5, 6, 7, 8] rfl
        refine va_callv (va_runV (As := [.int p1, .int r14, .int p2]) (rest := []) ⟨hx, hb, hml, hown, hts⟩ (met_X7_put l dC dI cI cZ cS aM u12 hs H7.size p1 r14 p2 u16 hc17) (cwV 3 hts gX7_serve_X7_put rfl rfl rfl (by decide +kernel) ⟨Nat.le_of_ble_eq_true rfl, Nat.le_of_ble_eq_true rfl⟩) (pV (wc := wMo cI aM u12 hs) (ci := 7) (q0 := 0) hK hP hD hN [0, 1, 2, 3, 4, 5, 6, 7, 8] rfl (by decide) rfl rfl) rfl rfl hl.1 rfl (lv_room (Nat.le_of_ble_eq_true rfl)) dX7_serve_71 ⟨Nat.zero_le _, Nat.zero_le _⟩) hS (fun q _ h => hF q h) hF (fun  u16 t H8 locs ht hvm hw hB hz1 hk1 hS => ?_)
        try dsimp only at hw hB
        rw [ht] at hB
        cases hw
        have hP := wrk (w2 := wMo cI aM u16 hs) hP hD [0, 1, 2, 3, 4, 5, 6, 7, 8] rfl (by decide) hk1 hB rfl rfl
        have hD := D_addr (w1 := wMo cI aM u16 hs) hD rfl
        refine lv_aload_n hx hb dX7_serve_74 rfl (lv_at hl 0 rfl) ?_
        refine lv_iload_n hx hb dX7_serve_75 rfl (lv_at hl 1 rfl) ?_
        refine lv_iload_n hx hb dX7_serve_76 rfl (lv_at hl 2 rfl) ?_
        obtain ⟨r18, hc19, hR⟩ := ob1_e hR
        refine va_calli (va_runV (As := [.int p1, .int p2]) (rest := []) ⟨hx, hb, hml, hown, hts⟩ (met_X7_joyNow l dC dI cI cZ cS aM u16 hs H8.size p1 p2 r18 hc19) (cwV 2 hts gX7_serve_X7_joyNow rfl rfl rfl (by decide +kernel) ⟨Nat.le_of_ble_eq_true rfl, Nat.le_of_ble_eq_true rfl⟩) (pV (wc := wMo cI aM u16 hs) (ci := 7) (q0 := 0) hK hP hD hN [0, 1, 2, 3, 4, 5, 6, 7, 8] rfl (by decide) rfl rfl) rfl rfl hl.1 rfl (lv_room (Nat.le_of_ble_eq_true rfl)) dX7_serve_77 ⟨Nat.zero_le _, Nat.zero_le _⟩) hS (fun q _ h => a0_in hS hA q h) (a0_in hS hA) (fun r18 u t H9 locs ht hvm hw hB hz1 hk1 hS => ?_)
        cases hw
        have hP := rdk hP hk1
        exact W.iret (v := r18) hx hb hr (fun t ht hW => ⟨⟨r18, u16, rfl, Option.some.inj hR, P_at ht hP⟩, hS.F ht⟩) hS.2.2 dX7_serve_80
abbrev rm_X7_drop : Room := { frames := 6, cells := 0, slots := 0, locals := 139 }
abbrev q_X7_drop (dC : Nat → ClassId) (dI : Nat → Nat → Nat) (cI cZ cS : ClassId) (aM : Nat → Nat) (hs : Int64) (res : Int32 × Pic) (A : Nat → Prop) : Array Value → State → Outcome → State → Prop := va_Qi (fun (r : Int32) (u : Pic) => (r, u) = res) (fun u t => va_P (dC, dI) vwCl (wMo cI aM u hs) t.heap) A
set_option maxHeartbeats 4000000 in
set_option maxRecDepth 100000 in
theorem met_X7_drop (l : Launch) (dC : Nat → ClassId) (dI : Nat → Nat → Nat) (cI cZ cS : ClassId) (aM : Nat → Nat) (M : Pic) (hs : Int64) (sz : Nat) (p1 : Int32) (p2 : Int32) (res : Int32 × Pic) (hR : f7_drop M p1 p2 = some res) : Met l yX7_drop wsX7_drop rm_X7_drop (va_Pc [.ref (aM 0), .int p1, .int p2] (pW (dC, dI) (tyS cI cZ cS) (wMo cI aM M hs) sz)) (q_X7_drop dC dI cI cZ cS aM hs res (va_A (wMo cI aM M hs) sz)) 0 0 (va_A (wMo cI aM M hs) sz) := by
  refine Met.ofW (cc := cX7_drop) (maxL := 4) (ret := (some .int)) (by decide) rfl ?_
  intro p e s m args below meth c s₁ B hml hv
  obtain ⟨rfl, hsz, hP, hK, hD0, hN⟩ := hv
  have hx := B.exec
  have hb := B.bytes
  have hr := B.returns
  have hts := atoms_spec (ws := wsX7_drop) B.pre
  have hown : s.vm.findClass RX7 = some m.cls := findClass_of_methodNamed B.named
  have hlocks := B.notSynchronized
  subst hsz
  have hD := hD0.self (sz := s.heap.size)
  generalize hAe : va_A (wMo cI aM M hs) s.heap.size = A at hD ⊢
  have hA : ∀ q : Nat, s.heap.size ≤ q → A q := fun q h => by rw [← hAe]; exact Or.inr h
  have hS : va_S A s.heap s.heap [] := va_S.rf
  have hP : va_P (dC, dI) vwCl (wMo cI aM M hs) s.heap := hP
  rw [f7_drop] at hR
  have hin7 : ∀ w ∈ wsX70, w ∈ wsX7_drop := by decide +kernel
  have hl := lv_entry ([.ref (aM 0), .int p1, .int p2]) (n := 4) (Nat.le_of_ble_eq_true rfl)
  rw [lg_entry_eq]
  generalize (lg_sl ([.ref (aM 0), .int p1, .int p2]) ++ List.replicate (4 - (lg_sl ([.ref (aM 0), .int p1, .int p2])).length) Slot.unset).toArray = ls at hl ⊢
  have hl : lv_has ls 4 [(0, .ref (aM 0)), (1, .int p1), (2, .int p2)] := hl
  refine lv_aload_n hx hb dX7_drop_0 rfl (lv_at hl 0 rfl) ?_
  refine lv_iload_n hx hb dX7_drop_1 rfl (lv_at hl 1 rfl) ?_
  refine va_calli (va_runS (As := [.int p1]) (rest := [.ref (aM 0)]) ⟨hx, hb, hml, hown, hts⟩ (met_X7_isDay l dC dI cI cZ cS s.heap.size p1) (va_cwS 1 hts gX7_drop_X7_isDay rfl rfl rfl (by decide +kernel) ⟨Nat.le_of_ble_eq_true rfl, Nat.le_of_ble_eq_true rfl⟩) (pS (wc := []) hK hP hD hN [] rfl (by decide)) rfl rfl hl.1 rfl (lv_room (Nat.le_of_ble_eq_true rfl)) dX7_drop_2 ⟨Nat.zero_le _, Nat.zero_le _⟩) hS (fun q _ h => a0_in hS hA q h) (a0_in hS hA) (fun r1 u t H1 locs ht hvm hw hB hz1 hk1 hS => ?_)
  obtain ⟨hw, nb2⟩ := hw
  subst hw
  have hP := rdk hP hk1
  refine lv_if_eq (tgt := 19) hx hb dX7_drop_5 (by decide) (fun c_3 => ?_) (fun c_3 => ?_)
  · rw [if_pos c_3] at hR
    refine lv_iconst (v := (1 : Int32)) hx hb dX7_drop_19 (by decide) ?_
    refine va_put (D := (dC, dI)) (ci := 7) (v := .int (1 : Int32)) (ty := .int) (C := RX7) (T := TX7) (N := 15) hx hb hts hin7 tyX7 tyX7_ok nmX7 hown hK hP hD hS 0 rfl rfl 7 (by decide) (hw_ hts 1 rfl) (fun _ h9 => h9) rfl (by decide +kernel) rfl rfl (Nat.le_of_ble_eq_true rfl) dX7_drop_20 (fun H2 locs hP hD hS => ?_)
    have hP : va_P (dC, dI) vwCl (wMo cI aM (pset M 7 (fun _ => (1 : Int32))) hs) H2 := hP
    have hD : va_D A (wMo cI aM (pset M 7 (fun _ => (1 : Int32))) hs) := hD
    refine lv_aload_n hx hb dX7_drop_23 rfl (lv_at hl 0 rfl) ?_
    refine va_get (D := (dC, dI)) (ci := 7) (v := .int (1 : Int32)) (C := RX7) (T := TX7) (N := 15) hx hb hts hin7 hown hK hP 0 rfl rfl 7 (by decide) (hw_ hts 1 rfl) (fun _ h9 => h9) rfl dX7_drop_24 ?_
    refine lv_if_ne (tgt := 59) hx hb dX7_drop_27 (by decide) (fun _ => ?_) (fun q => absurd q (by decide))
    refine lv_aload_n hx hb dX7_drop_59 rfl (lv_at hl 0 rfl) ?_
    refine va_get (D := (dC, dI)) (ci := 7) (v := .int (1 : Int32)) (C := RX7) (T := TX7) (N := 15) hx hb hts hin7 hown hK hP 0 rfl rfl 7 (by decide) (hw_ hts 1 rfl) (fun _ h9 => h9) rfl dX7_drop_60 ?_
    refine lv_if_le (tgt := 68) hx hb dX7_drop_63 (by decide) (fun q => absurd q (by decide)) (fun _ => ?_)
    refine lv_iconst (v := (0 : Int32)) hx hb dX7_drop_66 (by decide) ?_
    exact W.iret (v := (0 : Int32)) hx hb hr (fun t ht hW => ⟨⟨(0 : Int32), (pset M 7 (fun _ => (1 : Int32))), rfl, Option.some.inj hR, P_at ht hP⟩, hS.F ht⟩) hS.2.2 dX7_drop_67
  · rw [if_neg c_3] at hR
    refine lv_iload_n hx hb dX7_drop_8 rfl (lv_at hl 2 rfl) ?_
    refine va_calli (va_runS (As := [.int p2]) (rest := [.ref (aM 0)]) ⟨hx, hb, hml, hown, hts⟩ (met_X7_isPart l dC dI cI cZ cS H1.size p2) (va_cwS 1 hts gX7_drop_X7_isPart rfl rfl rfl (by decide +kernel) ⟨Nat.le_of_ble_eq_true rfl, Nat.le_of_ble_eq_true rfl⟩) (pS (wc := []) hK hP hD hN [] rfl (by decide)) rfl rfl hl.1 rfl (lv_room (Nat.le_of_ble_eq_true rfl)) dX7_drop_9 ⟨Nat.zero_le _, Nat.zero_le _⟩) hS (fun q _ h => a0_in hS hA q h) (a0_in hS hA) (fun r4 u t H2 locs ht hvm hw hB hz1 hk1 hS => ?_)
    obtain ⟨hw, nb5⟩ := hw
    subst hw
    have hP := rdk hP hk1
    refine lv_if_eq (tgt := 19) hx hb dX7_drop_12 (by decide) (fun c_6 => ?_) (fun c_6 => ?_)
    · rw [if_pos c_6] at hR
      refine lv_iconst (v := (1 : Int32)) hx hb dX7_drop_19 (by decide) ?_
      refine va_put (D := (dC, dI)) (ci := 7) (v := .int (1 : Int32)) (ty := .int) (C := RX7) (T := TX7) (N := 15) hx hb hts hin7 tyX7 tyX7_ok nmX7 hown hK hP hD hS 0 rfl rfl 7 (by decide) (hw_ hts 1 rfl) (fun _ h9 => h9) rfl (by decide +kernel) rfl rfl (Nat.le_of_ble_eq_true rfl) dX7_drop_20 (fun H3 locs hP hD hS => ?_)
      have hP : va_P (dC, dI) vwCl (wMo cI aM (pset M 7 (fun _ => (1 : Int32))) hs) H3 := hP
      have hD : va_D A (wMo cI aM (pset M 7 (fun _ => (1 : Int32))) hs) := hD
      refine lv_aload_n hx hb dX7_drop_23 rfl (lv_at hl 0 rfl) ?_
      refine va_get (D := (dC, dI)) (ci := 7) (v := .int (1 : Int32)) (C := RX7) (T := TX7) (N := 15) hx hb hts hin7 hown hK hP 0 rfl rfl 7 (by decide) (hw_ hts 1 rfl) (fun _ h9 => h9) rfl dX7_drop_24 ?_
      refine lv_if_ne (tgt := 59) hx hb dX7_drop_27 (by decide) (fun _ => ?_) (fun q => absurd q (by decide))
      refine lv_aload_n hx hb dX7_drop_59 rfl (lv_at hl 0 rfl) ?_
      refine va_get (D := (dC, dI)) (ci := 7) (v := .int (1 : Int32)) (C := RX7) (T := TX7) (N := 15) hx hb hts hin7 hown hK hP 0 rfl rfl 7 (by decide) (hw_ hts 1 rfl) (fun _ h9 => h9) rfl dX7_drop_60 ?_
      refine lv_if_le (tgt := 68) hx hb dX7_drop_63 (by decide) (fun q => absurd q (by decide)) (fun _ => ?_)
      refine lv_iconst (v := (0 : Int32)) hx hb dX7_drop_66 (by decide) ?_
      exact W.iret (v := (0 : Int32)) hx hb hr (fun t ht hW => ⟨⟨(0 : Int32), (pset M 7 (fun _ => (1 : Int32))), rfl, Option.some.inj hR, P_at ht hP⟩, hS.F ht⟩) hS.2.2 dX7_drop_67
    · rw [if_neg c_6] at hR
      refine lv_iconst (v := (0 : Int32)) hx hb dX7_drop_15 (by decide) ?_
      refine lv_goto (tgt := 20) hx hb dX7_drop_16 (by decide) ?_
      refine va_put (D := (dC, dI)) (ci := 7) (v := .int (0 : Int32)) (ty := .int) (C := RX7) (T := TX7) (N := 15) hx hb hts hin7 tyX7 tyX7_ok nmX7 hown hK hP hD hS 0 rfl rfl 7 (by decide) (hw_ hts 1 rfl) (fun _ h9 => h9) rfl (by decide +kernel) rfl rfl (Nat.le_of_ble_eq_true rfl) dX7_drop_20 (fun H3 locs hP hD hS => ?_)
      have hP : va_P (dC, dI) vwCl (wMo cI aM (pset M 7 (fun _ => (0 : Int32))) hs) H3 := hP
      have hD : va_D A (wMo cI aM (pset M 7 (fun _ => (0 : Int32))) hs) := hD
      refine lv_aload_n hx hb dX7_drop_23 rfl (lv_at hl 0 rfl) ?_
      refine va_get (D := (dC, dI)) (ci := 7) (v := .int (0 : Int32)) (C := RX7) (T := TX7) (N := 15) hx hb hts hin7 hown hK hP 0 rfl rfl 7 (by decide) (hw_ hts 1 rfl) (fun _ h9 => h9) rfl dX7_drop_24 ?_
      refine lv_if_ne (tgt := 59) hx hb dX7_drop_27 (by decide) (fun q => absurd (by decide) q) (fun _ => ?_)
      refine lv_aload_n hx hb dX7_drop_30 rfl (lv_at hl 0 rfl) ?_
      refine lv_aload_n hx hb dX7_drop_31 rfl (lv_at hl 0 rfl) ?_
      refine lv_iload_n hx hb dX7_drop_32 rfl (lv_at hl 1 rfl) ?_
      refine lv_iload_n hx hb dX7_drop_33 rfl (lv_at hl 2 rfl) ?_
      obtain ⟨r7, hc8, hR⟩ := ob1_e hR
      refine va_calli (va_runV (As := [.int p1, .int p2]) (rest := [.ref (aM 0)]) ⟨hx, hb, hml, hown, hts⟩ (met_X7_at l dC dI cI cZ cS aM (pset M 7 (fun _ => (0 : Int32))) hs H3.size p1 p2 r7 hc8) (cwV 2 hts gX7_drop_X7_at rfl rfl rfl (by decide +kernel) ⟨Nat.le_of_ble_eq_true rfl, Nat.le_of_ble_eq_true rfl⟩) (pV (wc := wMo cI aM (pset M 7 (fun _ => (0 : Int32))) hs) (ci := 7) (q0 := 0) hK hP hD hN [0, 1, 2, 3, 4, 5, 6, 7, 8] rfl (by decide) rfl rfl) rfl rfl hl.1 rfl (lv_room (Nat.le_of_ble_eq_true rfl)) dX7_drop_34 ⟨Nat.zero_le _, Nat.zero_le _⟩) hS (fun q _ h => a0_in hS hA q h) (a0_in hS hA) (fun r7 u t H4 locs ht hvm hw hB hz1 hk1 hS => ?_)
      cases hw
      have hP := rdk hP hk1
      refine lv_iconst (v := (-1 : Int32)) hx hb dX7_drop_37 (by decide) ?_
      refine lv_icmp_eq (tgt := 55) hx hb dX7_drop_38 (by decide) (fun c_9 => ?_) (fun c_9 => ?_)
      · rw [if_pos c_9] at hR
        refine lv_iconst (v := (2 : Int32)) hx hb dX7_drop_55 (by decide) ?_
        refine va_put (D := (dC, dI)) (ci := 7) (v := .int (2 : Int32)) (ty := .int) (C := RX7) (T := TX7) (N := 15) hx hb hts hin7 tyX7 tyX7_ok nmX7 hown hK hP hD hS 0 rfl rfl 7 (by decide) (hw_ hts 1 rfl) (fun _ h9 => h9) rfl (by decide +kernel) rfl rfl (Nat.le_of_ble_eq_true rfl) dX7_drop_56 (fun H5 locs hP hD hS => ?_)
        have hP : va_P (dC, dI) vwCl (wMo cI aM (pset M 7 (fun _ => (2 : Int32))) hs) H5 := hP
        have hD : va_D A (wMo cI aM (pset M 7 (fun _ => (2 : Int32))) hs) := hD
        refine lv_aload_n hx hb dX7_drop_59 rfl (lv_at hl 0 rfl) ?_
        refine va_get (D := (dC, dI)) (ci := 7) (v := .int (2 : Int32)) (C := RX7) (T := TX7) (N := 15) hx hb hts hin7 hown hK hP 0 rfl rfl 7 (by decide) (hw_ hts 1 rfl) (fun _ h9 => h9) rfl dX7_drop_60 ?_
        refine lv_if_le (tgt := 68) hx hb dX7_drop_63 (by decide) (fun q => absurd q (by decide)) (fun _ => ?_)
        refine lv_iconst (v := (0 : Int32)) hx hb dX7_drop_66 (by decide) ?_
        exact W.iret (v := (0 : Int32)) hx hb hr (fun t ht hW => ⟨⟨(0 : Int32), (pset M 7 (fun _ => (2 : Int32))), rfl, Option.some.inj hR, P_at ht hP⟩, hS.F ht⟩) hS.2.2 dX7_drop_67
      · rw [if_neg c_9] at hR
        refine lv_aload_n hx hb dX7_drop_41 rfl (lv_at hl 0 rfl) ?_
        refine lv_iload_n hx hb dX7_drop_42 rfl (lv_at hl 1 rfl) ?_
        refine lv_iload_n hx hb dX7_drop_43 rfl (lv_at hl 2 rfl) ?_
        refine lv_iconst (v := (-1 : Int32)) hx hb dX7_drop_44 (by decide) ?_
        obtain ⟨r10, u11, hc12, hR⟩ := ob2_e hR
        have hF := va_free (wc := wMo cI aM (pset M 7 (fun _ => (0 : Int32))) hs) hD hS hA [0, 1, 2, 3, 4, 5, 6, 7, 8] rfl
        refine va_calli (va_runV (As := [.int p1, .int p2, .int (-1 : Int32)]) (rest := [.ref (aM 0)]) ⟨hx, hb, hml, hown, hts⟩ (met_X7_soundWith l dC dI cI cZ cS aM (pset M 7 (fun _ => (0 : Int32))) hs H4.size p1 p2 (-1 : Int32) (r10, u11) hc12) (cwV 3 hts gX7_drop_X7_soundWith rfl rfl rfl (by decide +kernel) ⟨Nat.le_of_ble_eq_true rfl, Nat.le_of_ble_eq_true rfl⟩) (pV (wc := wMo cI aM (pset M 7 (fun _ => (0 : Int32))) hs) (ci := 7) (q0 := 0) hK hP hD hN [0, 1, 2, 3, 4, 5, 6, 7, 8] rfl (by decide) rfl rfl) rfl rfl hl.1 rfl (lv_room (Nat.le_of_ble_eq_true rfl)) dX7_drop_45 ⟨Nat.zero_le _, Nat.zero_le _⟩) hS (fun q _ h => hF q h) hF (fun r10 u11 t H5 locs ht hvm hw hB hz1 hk1 hS => ?_)
        obtain ⟨hw, nb13⟩ := hw
        try dsimp only at hw hB
        rw [ht] at hB
        cases hw
        have hP := wrk (w2 := wMo cI aM u11 hs) hP hD [0, 1, 2, 3, 4, 5, 6, 7, 8] rfl (by decide) hk1 hB rfl rfl
        have hD := D_addr (w1 := wMo cI aM u11 hs) hD rfl
        refine lv_if_eq (tgt := 55) hx hb dX7_drop_48 (by decide) (fun c_14 => ?_) (fun c_14 => ?_)
        · rw [if_pos c_14] at hR
          refine lv_iconst (v := (2 : Int32)) hx hb dX7_drop_55 (by decide) ?_
          refine va_put (D := (dC, dI)) (ci := 7) (v := .int (2 : Int32)) (ty := .int) (C := RX7) (T := TX7) (N := 15) hx hb hts hin7 tyX7 tyX7_ok nmX7 hown hK hP hD hS 0 rfl rfl 7 (by decide) (hw_ hts 1 rfl) (fun _ h9 => h9) rfl (by decide +kernel) rfl rfl (Nat.le_of_ble_eq_true rfl) dX7_drop_56 (fun H6 locs hP hD hS => ?_)
          have hP : va_P (dC, dI) vwCl (wMo cI aM (pset u11 7 (fun _ => (2 : Int32))) hs) H6 := hP
          have hD : va_D A (wMo cI aM (pset u11 7 (fun _ => (2 : Int32))) hs) := hD
          refine lv_aload_n hx hb dX7_drop_59 rfl (lv_at hl 0 rfl) ?_
          refine va_get (D := (dC, dI)) (ci := 7) (v := .int (2 : Int32)) (C := RX7) (T := TX7) (N := 15) hx hb hts hin7 hown hK hP 0 rfl rfl 7 (by decide) (hw_ hts 1 rfl) (fun _ h9 => h9) rfl dX7_drop_60 ?_
          refine lv_if_le (tgt := 68) hx hb dX7_drop_63 (by decide) (fun q => absurd q (by decide)) (fun _ => ?_)
          refine lv_iconst (v := (0 : Int32)) hx hb dX7_drop_66 (by decide) ?_
          exact W.iret (v := (0 : Int32)) hx hb hr (fun t ht hW => ⟨⟨(0 : Int32), (pset u11 7 (fun _ => (2 : Int32))), rfl, Option.some.inj hR, P_at ht hP⟩, hS.F ht⟩) hS.2.2 dX7_drop_67
        · rw [if_neg c_14] at hR
          refine lv_iconst (v := (0 : Int32)) hx hb dX7_drop_51 (by decide) ?_
          refine lv_goto (tgt := 56) hx hb dX7_drop_52 (by decide) ?_
          refine va_put (D := (dC, dI)) (ci := 7) (v := .int (0 : Int32)) (ty := .int) (C := RX7) (T := TX7) (N := 15) hx hb hts hin7 tyX7 tyX7_ok nmX7 hown hK hP hD hS 0 rfl rfl 7 (by decide) (hw_ hts 1 rfl) (fun _ h9 => h9) rfl (by decide +kernel) rfl rfl (Nat.le_of_ble_eq_true rfl) dX7_drop_56 (fun H6 locs hP hD hS => ?_)
          have hP : va_P (dC, dI) vwCl (wMo cI aM (pset u11 7 (fun _ => (0 : Int32))) hs) H6 := hP
          have hD : va_D A (wMo cI aM (pset u11 7 (fun _ => (0 : Int32))) hs) := hD
          refine lv_aload_n hx hb dX7_drop_59 rfl (lv_at hl 0 rfl) ?_
          refine va_get (D := (dC, dI)) (ci := 7) (v := .int (0 : Int32)) (C := RX7) (T := TX7) (N := 15) hx hb hts hin7 hown hK hP 0 rfl rfl 7 (by decide) (hw_ hts 1 rfl) (fun _ h9 => h9) rfl dX7_drop_60 ?_
          refine lv_if_le (tgt := 68) hx hb dX7_drop_63 (by decide) (fun _ => ?_) (fun q => absurd (by decide) q)
          refine lv_aload_n hx hb dX7_drop_68 rfl (lv_at hl 0 rfl) ?_
          obtain ⟨u15, hc16, hR⟩ := ob1_e hR
          have hF := va_free (wc := wMo cI aM (pset u11 7 (fun _ => (0 : Int32))) hs) hD hS hA [0, 1, 2, 3, 4, 5, 6, 7, 8] rfl
          refine va_callv (va_runV (As := []) (rest := []) ⟨hx, hb, hml, hown, hts⟩ (met_X7_save l dC dI cI cZ cS aM (pset u11 7 (fun _ => (0 : Int32))) hs H6.size u15 hc16) (cwV 0 hts gX7_drop_X7_save rfl rfl rfl (by decide +kernel) ⟨Nat.le_of_ble_eq_true rfl, Nat.le_of_ble_eq_true rfl⟩) (pV (wc := wMo cI aM (pset u11 7 (fun _ => (0 : Int32))) hs) (ci := 7) (q0 := 0) hK hP hD hN [0, 1, 2, 3, 4, 5, 6, 7, 8] rfl (by decide) rfl rfl) rfl rfl hl.1 rfl (lv_room (Nat.le_of_ble_eq_true rfl)) dX7_drop_69 ⟨Nat.zero_le _, Nat.zero_le _⟩) hS (fun q _ h => hF q h) hF (fun  u15 t H7 locs ht hvm hw hB hz1 hk1 hS => ?_)
          try dsimp only at hw hB
          rw [ht] at hB
          cases hw
          have hP := wrk (w2 := wMo cI aM u15 hs) hP hD [0, 1, 2, 3, 4, 5, 6, 7, 8] rfl (by decide) hk1 hB rfl rfl
          have hD := D_addr (w1 := wMo cI aM u15 hs) hD rfl
          refine lv_aload_n hx hb dX7_drop_72 rfl (lv_at hl 0 rfl) ?_
          refine lv_iload_n hx hb dX7_drop_73 rfl (lv_at hl 1 rfl) ?_
          refine lv_iload_n hx hb dX7_drop_74 rfl (lv_at hl 2 rfl) ?_
          obtain ⟨r17, hc18, hR⟩ := ob1_e hR
          refine va_calli (va_runV (As := [.int p1, .int p2]) (rest := []) ⟨hx, hb, hml, hown, hts⟩ (met_X7_at l dC dI cI cZ cS aM u15 hs H7.size p1 p2 r17 hc18) (cwV 2 hts gX7_drop_X7_at rfl rfl rfl (by decide +kernel) ⟨Nat.le_of_ble_eq_true rfl, Nat.le_of_ble_eq_true rfl⟩) (pV (wc := wMo cI aM u15 hs) (ci := 7) (q0 := 0) hK hP hD hN [0, 1, 2, 3, 4, 5, 6, 7, 8] rfl (by decide) rfl rfl) rfl rfl hl.1 rfl (lv_room (Nat.le_of_ble_eq_true rfl)) dX7_drop_75 ⟨Nat.zero_le _, Nat.zero_le _⟩) hS (fun q _ h => a0_in hS hA q h) (a0_in hS hA) (fun r17 u t H8 locs ht hvm hw hB hz1 hk1 hS => ?_)
          cases hw
          have hP := rdk hP hk1
          refine lv_istore_n (lv' := [(3, .int r17), (0, .ref (aM 0)), (1, .int p1), (2, .int p2)]) hx hb dX7_drop_78 rfl hl (by decide) rfl (fun ls hl => ?_)
          refine lv_aload_n hx hb dX7_drop_79 rfl (lv_at hl 1 rfl) ?_
          refine lv_iload_n hx hb dX7_drop_80 rfl (lv_at hl 2 rfl) ?_
          refine lv_iload_n hx hb dX7_drop_81 rfl (lv_at hl 3 rfl) ?_
          refine lv_iconst (v := (-1 : Int32)) hx hb dX7_drop_82 (by decide) ?_
          obtain ⟨u19, hc20, hR⟩ := ob1_e hR
          have hF := va_free (wc := wMo cI aM u15 hs) hD hS hA [0, 1, 2, 3, 4, 5, 6, 7, 8] rfl
          refine va_callv (va_runV (As := [.int p1, .int p2, .int (-1 : Int32)]) (rest := []) ⟨hx, hb, hml, hown, hts⟩ (met_X7_put l dC dI cI cZ cS aM u15 hs H8.size p1 p2 (-1 : Int32) u19 hc20) (cwV 3 hts gX7_drop_X7_put rfl rfl rfl (by decide +kernel) ⟨Nat.le_of_ble_eq_true rfl, Nat.le_of_ble_eq_true rfl⟩) (pV (wc := wMo cI aM u15 hs) (ci := 7) (q0 := 0) hK hP hD hN [0, 1, 2, 3, 4, 5, 6, 7, 8] rfl (by decide) rfl rfl) rfl rfl hl.1 rfl (lv_room (Nat.le_of_ble_eq_true rfl)) dX7_drop_83 ⟨Nat.zero_le _, Nat.zero_le _⟩) hS (fun q _ h => hF q h) hF (fun  u19 t H9 locs ht hvm hw hB hz1 hk1 hS => ?_)
          try dsimp only at hw hB
          rw [ht] at hB
          cases hw
          have hP := wrk (w2 := wMo cI aM u19 hs) hP hD [0, 1, 2, 3, 4, 5, 6, 7, 8] rfl (by decide) hk1 hB rfl rfl
          have hD := D_addr (w1 := wMo cI aM u19 hs) hD rfl
          refine lv_iload_n hx hb dX7_drop_86 rfl (lv_at hl 0 rfl) ?_
          exact W.iret (v := r17) hx hb hr (fun t ht hW => ⟨⟨r17, u19, rfl, Option.some.inj hR, P_at ht hP⟩, hS.F ht⟩) hS.2.2 dX7_drop_87
abbrev rm_X7_swap : Room := { frames := 1, cells := 0, slots := 0, locals := 23 }
abbrev q_X7_swap (dC : Nat → ClassId) (dI : Nat → Nat → Nat) (cI cZ cS : ClassId) (aM : Nat → Nat) (hs : Int64) (res : Pic) (A : Nat → Prop) : Array Value → State → Outcome → State → Prop := va_Qv (fun (u : Pic) => u = res) (fun u t => va_P (dC, dI) vwCl (wMo cI aM u hs) t.heap) A
set_option maxHeartbeats 4000000 in
set_option maxRecDepth 100000 in
theorem met_X7_swap (l : Launch) (dC : Nat → ClassId) (dI : Nat → Nat → Nat) (cI cZ cS : ClassId) (aM : Nat → Nat) (M : Pic) (hs : Int64) (sz : Nat) (p1 : Int32) (p2 : Int32) (res : Pic) (hR : f7_swap M p1 p2 = some res) : Met l yX7_swap wsX7_swap rm_X7_swap (va_Pc [.ref (aM 0), .int p1, .int p2] (pW (dC, dI) (tyS cI cZ cS) (wMo cI aM M hs) sz)) (q_X7_swap dC dI cI cZ cS aM hs res (va_A (wMo cI aM M hs) sz)) 0 0 (va_A (wMo cI aM M hs) sz) := by
  refine Met.ofW (cc := cX7_swap) (maxL := 5) (ret := none) (by decide) rfl ?_
  intro p e s m args below meth c s₁ B hml hv
  obtain ⟨rfl, hsz, hP, hK, hD0, hN⟩ := hv
  have hx := B.exec
  have hb := B.bytes
  have hr := B.returns
  have hts := atoms_spec (ws := wsX7_swap) B.pre
  have hown : s.vm.findClass RX7 = some m.cls := findClass_of_methodNamed B.named
  have hlocks := B.notSynchronized
  subst hsz
  have hD := hD0.self (sz := s.heap.size)
  generalize hAe : va_A (wMo cI aM M hs) s.heap.size = A at hD ⊢
  have hA : ∀ q : Nat, s.heap.size ≤ q → A q := fun q h => by rw [← hAe]; exact Or.inr h
  have hS : va_S A s.heap s.heap [] := va_S.rf
  have hP : va_P (dC, dI) vwCl (wMo cI aM M hs) s.heap := hP
  rw [f7_swap] at hR
  have hl := lv_entry ([.ref (aM 0), .int p1, .int p2]) (n := 5) (Nat.le_of_ble_eq_true rfl)
  rw [lg_entry_eq]
  generalize (lg_sl ([.ref (aM 0), .int p1, .int p2]) ++ List.replicate (5 - (lg_sl ([.ref (aM 0), .int p1, .int p2])).length) Slot.unset).toArray = ls at hl ⊢
  have hl : lv_has ls 5 [(0, .ref (aM 0)), (1, .int p1), (2, .int p2)] := hl
  refine lv_iconst (v := (0 : Int32)) hx hb dX7_swap_0 (by decide) ?_
  refine lv_istore_n (lv' := [(3, .int (0 : Int32)), (0, .ref (aM 0)), (1, .int p1), (2, .int p2)]) hx hb dX7_swap_1 rfl hl (by decide) rfl (fun ls hl => ?_)
  have LOOP2 : ∀ (k : Pic → (Option (Pic))), (∀ (M_2 : Pic) (H1 : Heap) (locs : List Loc), k M_2 = some res → va_P (dC, dI) vwCl (wMo cI aM M_2 hs) H1 → va_D A (wMo cI aM M_2 hs) → va_S A s.heap H1 locs → ∀ (ls : Array Slot), lv_has ls 5 [] → W p l e (headSpec wsX7_swap rm_X7_swap).room s m ([.ref (aM 0), .int p1, .int p2] : List Value).toArray below meth c H1 locs 0 0 (MQ below (q_X7_swap dC dI cI cZ cS aM hs res A) ([.ref (aM 0), .int p1, .int p2] : List Value).toArray s 0 0 A) (F0 m 41 ls [])) → ∀ (nf : Nat) (x3_2 : Int32) (M_2 : Pic) (H1 : Heap) (locs : List Loc), ((3 : Int32)).toInt - (x3_2).toInt ≤ (nf : Int) → f7_swap_L2 p1 p2 nf x3_2 M_2 k = some res → va_P (dC, dI) vwCl (wMo cI aM M_2 hs) H1 → va_D A (wMo cI aM M_2 hs) → va_S A s.heap H1 locs → ∀ (ls : Array Slot), lv_has ls 5 [(3, .int x3_2), (0, .ref (aM 0)), (1, .int p1), (2, .int p2)] → W p l e (headSpec wsX7_swap rm_X7_swap).room s m ([.ref (aM 0), .int p1, .int p2] : List Value).toArray below meth c H1 locs 0 0 (MQ below (q_X7_swap dC dI cI cZ cS aM hs res A) ([.ref (aM 0), .int p1, .int p2] : List Value).toArray s 0 0 A) (F0 m 2 ls []) := by
    intro k hk nf
    induction nf with
    | zero =>
      intro x3_2 M_2 H1 locs hfu hR hP hD hS ls hl
      rw [f7_swap_L2] at hR
      refine lv_iload_n hx hb dX7_swap_2 rfl (lv_at hl 0 rfl) ?_
      refine lv_iconst (v := (3 : Int32)) hx hb dX7_swap_3 (by decide) ?_
      refine lv_icmp_ge (tgt := 41) hx hb dX7_swap_4 (by decide) (fun c_1 => ?_) (fun c_1 => ?_)
      · skip
        exact hk M_2 _ _  hR hP hD hS ls (lv_sub hl [] rfl)
      · exact (fuel0 hfu c_1).elim
    | succ nf ih =>
      intro x3_2 M_2 H1 locs hfu hR hP hD hS ls hl
      rw [f7_swap_L2] at hR
      refine lv_iload_n hx hb dX7_swap_2 rfl (lv_at hl 0 rfl) ?_
      refine lv_iconst (v := (3 : Int32)) hx hb dX7_swap_3 (by decide) ?_
      refine lv_icmp_ge (tgt := 41) hx hb dX7_swap_4 (by decide) (fun c_2 => ?_) (fun c_2 => ?_)
      · rw [if_pos c_2] at hR
        exact hk M_2 _ _  hR hP hD hS ls (lv_sub hl [] rfl)
      · rw [if_neg c_2] at hR
        have hfu := fuelS hfu c_2
        refine lv_aload_n hx hb dX7_swap_7 rfl (lv_at hl 1 rfl) ?_
        refine lv_iload_n hx hb dX7_swap_8 rfl (lv_at hl 2 rfl) ?_
        refine lv_iload_n hx hb dX7_swap_9 rfl (lv_at hl 0 rfl) ?_
        obtain ⟨r3, hc4, hR⟩ := ob1_e hR
        refine va_calli (va_runV (As := [.int p1, .int x3_2]) (rest := []) ⟨hx, hb, hml, hown, hts⟩ (met_X7_at l dC dI cI cZ cS aM M_2 hs H1.size p1 x3_2 r3 hc4) (cwV 2 hts gX7_swap_X7_at rfl rfl rfl (by decide +kernel) ⟨Nat.le_of_ble_eq_true rfl, Nat.le_of_ble_eq_true rfl⟩) (pV (wc := wMo cI aM M_2 hs) (ci := 7) (q0 := 0) hK hP hD hN [0, 1, 2, 3, 4, 5, 6, 7, 8] rfl (by decide) rfl rfl) rfl rfl hl.1 rfl (lv_room (Nat.le_of_ble_eq_true rfl)) dX7_swap_10 ⟨Nat.zero_le _, Nat.zero_le _⟩) hS (fun q _ h => a0_in hS hA q h) (a0_in hS hA) (fun r3 u t H2 locs ht hvm hw hB hz1 hk1 hS => ?_)
        cases hw
        have hP := rdk hP hk1
        refine lv_istore (lv' := [(4, .int r3), (3, .int x3_2), (0, .ref (aM 0)), (1, .int p1), (2, .int p2)]) hx hb dX7_swap_13 hl (by decide) rfl (fun ls hl => ?_)
        refine lv_aload_n hx hb dX7_swap_15 rfl (lv_at hl 2 rfl) ?_
        refine lv_iload_n hx hb dX7_swap_16 rfl (lv_at hl 3 rfl) ?_
        refine lv_iload_n hx hb dX7_swap_17 rfl (lv_at hl 1 rfl) ?_
        refine lv_aload_n hx hb dX7_swap_18 rfl (lv_at hl 2 rfl) ?_
        refine lv_iload_n hx hb dX7_swap_19 rfl (lv_at hl 4 rfl) ?_
        refine lv_iload_n hx hb dX7_swap_20 rfl (lv_at hl 1 rfl) ?_
        obtain ⟨r5, hc6, hR⟩ := ob1_e hR
        refine va_calli (va_runV (As := [.int p2, .int x3_2]) (rest := [.int x3_2, .int p1, .ref (aM 0)]) ⟨hx, hb, hml, hown, hts⟩ (met_X7_at l dC dI cI cZ cS aM M_2 hs H2.size p2 x3_2 r5 hc6) (cwV 2 hts gX7_swap_X7_at rfl rfl rfl (by decide +kernel) ⟨Nat.le_of_ble_eq_true rfl, Nat.le_of_ble_eq_true rfl⟩) (pV (wc := wMo cI aM M_2 hs) (ci := 7) (q0 := 0) hK hP hD hN [0, 1, 2, 3, 4, 5, 6, 7, 8] rfl (by decide) rfl rfl) rfl rfl hl.1 rfl (lv_room (Nat.le_of_ble_eq_true rfl)) dX7_swap_21 ⟨Nat.zero_le _, Nat.zero_le _⟩) hS (fun q _ h => a0_in hS hA q h) (a0_in hS hA) (fun r5 u t H3 locs ht hvm hw hB hz1 hk1 hS => ?_)
        cases hw
        have hP := rdk hP hk1
        obtain ⟨u7, hc8, hR⟩ := ob1_e hR
        have hF := va_free (wc := wMo cI aM M_2 hs) hD hS hA [0, 1, 2, 3, 4, 5, 6, 7, 8] rfl
        refine va_callv (va_runV (As := [.int p1, .int x3_2, .int r5]) (rest := []) ⟨hx, hb, hml, hown, hts⟩ (met_X7_put l dC dI cI cZ cS aM M_2 hs H3.size p1 x3_2 r5 u7 hc8) (cwV 3 hts gX7_swap_X7_put rfl rfl rfl (by decide +kernel) ⟨Nat.le_of_ble_eq_true rfl, Nat.le_of_ble_eq_true rfl⟩) (pV (wc := wMo cI aM M_2 hs) (ci := 7) (q0 := 0) hK hP hD hN [0, 1, 2, 3, 4, 5, 6, 7, 8] rfl (by decide) rfl rfl) rfl rfl hl.1 rfl (lv_room (Nat.le_of_ble_eq_true rfl)) dX7_swap_24 ⟨Nat.zero_le _, Nat.zero_le _⟩) hS (fun q _ h => hF q h) hF (fun  u7 t H4 locs ht hvm hw hB hz1 hk1 hS => ?_)
        try dsimp only at hw hB
        rw [ht] at hB
        cases hw
        have hP := wrk (w2 := wMo cI aM u7 hs) hP hD [0, 1, 2, 3, 4, 5, 6, 7, 8] rfl (by decide) hk1 hB rfl rfl
        have hD := D_addr (w1 := wMo cI aM u7 hs) hD rfl
        refine lv_aload_n hx hb dX7_swap_27 rfl (lv_at hl 2 rfl) ?_
        refine lv_iload_n hx hb dX7_swap_28 rfl (lv_at hl 4 rfl) ?_
        refine lv_iload_n hx hb dX7_swap_29 rfl (lv_at hl 1 rfl) ?_
        refine lv_iload hx hb dX7_swap_30 (lv_at hl 0 rfl) ?_
        obtain ⟨u9, hc10, hR⟩ := ob1_e hR
        have hF := va_free (wc := wMo cI aM u7 hs) hD hS hA [0, 1, 2, 3, 4, 5, 6, 7, 8] rfl
        refine va_callv (va_runV (As := [.int p2, .int x3_2, .int r3]) (rest := []) ⟨hx, hb, hml, hown, hts⟩ (met_X7_put l dC dI cI cZ cS aM u7 hs H4.size p2 x3_2 r3 u9 hc10) (cwV 3 hts gX7_swap_X7_put rfl rfl rfl (by decide +kernel) ⟨Nat.le_of_ble_eq_true rfl, Nat.le_of_ble_eq_true rfl⟩) (pV (wc := wMo cI aM u7 hs) (ci := 7) (q0 := 0) hK hP hD hN [0, 1, 2, 3, 4, 5, 6, 7, 8] rfl (by decide) rfl rfl) rfl rfl hl.1 rfl (lv_room (Nat.le_of_ble_eq_true rfl)) dX7_swap_32 ⟨Nat.zero_le _, Nat.zero_le _⟩) hS (fun q _ h => hF q h) hF (fun  u9 t H5 locs ht hvm hw hB hz1 hk1 hS => ?_)
        try dsimp only at hw hB
        rw [ht] at hB
        cases hw
        have hP := wrk (w2 := wMo cI aM u9 hs) hP hD [0, 1, 2, 3, 4, 5, 6, 7, 8] rfl (by decide) hk1 hB rfl rfl
        have hD := D_addr (w1 := wMo cI aM u9 hs) hD rfl
        refine lv_iinc (v := (x3_2 + 1)) (lv' := [(3, .int (x3_2 + 1)), (4, .int r3), (0, .ref (aM 0)), (1, .int p1), (2, .int p2)]) hx hb dX7_swap_35 hl (k := 1) rfl rfl (by decide) rfl (fun ls hl => ?_)
        refine lv_goto (tgt := 2) hx hb dX7_swap_38 (by decide) ?_
        exact ih (x3_2 + 1) u9 _ _ hfu hR hP hD hS ls (lv_sub hl [0, 2, 3, 4] rfl)
  refine LOOP2 (fun M_2 => (some M_2)) (fun M_2 H1 locs hR hP hD hS ls hl => ?_) 3 (0 : Int32) M _ _ (by decide) hR hP hD hS ls (lv_sub hl [0, 1, 2, 3] rfl)
  try dsimp only at hR
  exact W.vret hx hb hr (fun t ht hW => ⟨⟨M_2, rfl, Option.some.inj hR, P_at ht hP⟩, hS.F ht⟩) hS.2.2 dX7_swap_41
abbrev rm_X7_goodSwapped : Room := { frames := 6, cells := 0, slots := 0, locals := 134 }
abbrev q_X7_goodSwapped (dC : Nat → ClassId) (dI : Nat → Nat → Nat) (cI cZ cS : ClassId) (aM : Nat → Nat) (hs : Int64) (res : Int32 × Pic) (A : Nat → Prop) : Array Value → State → Outcome → State → Prop := va_Qi (fun (r : Int32) (u : Pic) => (r, u) = res ∧ narrow .boolean (.int r) = .int r) (fun u t => va_P (dC, dI) vwCl (wMo cI aM u hs) t.heap) A
set_option maxHeartbeats 4000000 in
set_option maxRecDepth 100000 in
theorem met_X7_goodSwapped (l : Launch) (dC : Nat → ClassId) (dI : Nat → Nat → Nat) (cI cZ cS : ClassId) (aM : Nat → Nat) (M : Pic) (hs : Int64) (sz : Nat) (p1 : Int32) (p2 : Int32) (res : Int32 × Pic) (hR : f7_goodSwapped M p1 p2 = some res) : Met l yX7_goodSwapped wsX7_goodSwapped rm_X7_goodSwapped (va_Pc [.ref (aM 0), .int p1, .int p2] (pW (dC, dI) (tyS cI cZ cS) (wMo cI aM M hs) sz)) (q_X7_goodSwapped dC dI cI cZ cS aM hs res (va_A (wMo cI aM M hs) sz)) 0 0 (va_A (wMo cI aM M hs) sz) := by
  refine Met.ofW (cc := cX7_goodSwapped) (maxL := 4) (ret := (some .boolean)) (by decide) rfl ?_
  intro p e s m args below meth c s₁ B hml hv
  obtain ⟨rfl, hsz, hP, hK, hD0, hN⟩ := hv
  have hx := B.exec
  have hb := B.bytes
  have hr := B.returns
  have hts := atoms_spec (ws := wsX7_goodSwapped) B.pre
  have hown : s.vm.findClass RX7 = some m.cls := findClass_of_methodNamed B.named
  have hlocks := B.notSynchronized
  subst hsz
  have hD := hD0.self (sz := s.heap.size)
  generalize hAe : va_A (wMo cI aM M hs) s.heap.size = A at hD ⊢
  have hA : ∀ q : Nat, s.heap.size ≤ q → A q := fun q h => by rw [← hAe]; exact Or.inr h
  have hS : va_S A s.heap s.heap [] := va_S.rf
  have hP : va_P (dC, dI) vwCl (wMo cI aM M hs) s.heap := hP
  rw [f7_goodSwapped] at hR
  have hl := lv_entry ([.ref (aM 0), .int p1, .int p2]) (n := 4) (Nat.le_of_ble_eq_true rfl)
  rw [lg_entry_eq]
  generalize (lg_sl ([.ref (aM 0), .int p1, .int p2]) ++ List.replicate (4 - (lg_sl ([.ref (aM 0), .int p1, .int p2])).length) Slot.unset).toArray = ls at hl ⊢
  have hl : lv_has ls 4 [(0, .ref (aM 0)), (1, .int p1), (2, .int p2)] := hl
  refine lv_aload_n hx hb dX7_goodSwapped_0 rfl (lv_at hl 0 rfl) ?_
  refine lv_iload_n hx hb dX7_goodSwapped_1 rfl (lv_at hl 1 rfl) ?_
  refine lv_iload_n hx hb dX7_goodSwapped_2 rfl (lv_at hl 2 rfl) ?_
  obtain ⟨u1, hc2, hR⟩ := ob1_e hR
  have hF := va_free (wc := wMo cI aM M hs) hD hS hA [0, 1, 2, 3, 4, 5, 6, 7, 8] rfl
  refine va_callv (va_runV (As := [.int p1, .int p2]) (rest := []) ⟨hx, hb, hml, hown, hts⟩ (met_X7_swap l dC dI cI cZ cS aM M hs s.heap.size p1 p2 u1 hc2) (cwV 2 hts gX7_goodSwapped_X7_swap rfl rfl rfl (by decide +kernel) ⟨Nat.le_of_ble_eq_true rfl, Nat.le_of_ble_eq_true rfl⟩) (pV (wc := wMo cI aM M hs) (ci := 7) (q0 := 0) hK hP hD hN [0, 1, 2, 3, 4, 5, 6, 7, 8] rfl (by decide) rfl rfl) rfl rfl hl.1 rfl (lv_room (Nat.le_of_ble_eq_true rfl)) dX7_goodSwapped_3 ⟨Nat.zero_le _, Nat.zero_le _⟩) hS (fun q _ h => hF q h) hF (fun  u1 t H1 locs ht hvm hw hB hz1 hk1 hS => ?_)
  try dsimp only at hw hB
  rw [ht] at hB
  cases hw
  have hP := wrk (w2 := wMo cI aM u1 hs) hP hD [0, 1, 2, 3, 4, 5, 6, 7, 8] rfl (by decide) hk1 hB rfl rfl
  have hD := D_addr (w1 := wMo cI aM u1 hs) hD rfl
  refine lv_aload_n hx hb dX7_goodSwapped_6 rfl (lv_at hl 0 rfl) ?_
  obtain ⟨r3, u4, hc5, hR⟩ := ob2_e hR
  have hF := va_free (wc := wMo cI aM u1 hs) hD hS hA [0, 1, 2, 3, 4, 5, 6, 7, 8] rfl
  refine va_calli (va_runV (As := []) (rest := []) ⟨hx, hb, hml, hown, hts⟩ (met_X7_isGood l dC dI cI cZ cS aM u1 hs H1.size (r3, u4) hc5) (cwV 0 hts gX7_goodSwapped_X7_isGood rfl rfl rfl (by decide +kernel) ⟨Nat.le_of_ble_eq_true rfl, Nat.le_of_ble_eq_true rfl⟩) (pV (wc := wMo cI aM u1 hs) (ci := 7) (q0 := 0) hK hP hD hN [0, 1, 2, 3, 4, 5, 6, 7, 8] rfl (by decide) rfl rfl) rfl rfl hl.1 rfl (lv_room (Nat.le_of_ble_eq_true rfl)) dX7_goodSwapped_7 ⟨Nat.zero_le _, Nat.zero_le _⟩) hS (fun q _ h => hF q h) hF (fun r3 u4 t H2 locs ht hvm hw hB hz1 hk1 hS => ?_)
  obtain ⟨hw, nb6⟩ := hw
  try dsimp only at hw hB
  rw [ht] at hB
  cases hw
  have hP := wrk (w2 := wMo cI aM u4 hs) hP hD [0, 1, 2, 3, 4, 5, 6, 7, 8] rfl (by decide) hk1 hB rfl rfl
  have hD := D_addr (w1 := wMo cI aM u4 hs) hD rfl
  refine lv_istore_n (lv' := [(3, .int r3), (0, .ref (aM 0)), (1, .int p1), (2, .int p2)]) hx hb dX7_goodSwapped_10 rfl hl (by decide) rfl (fun ls hl => ?_)
  refine lv_aload_n hx hb dX7_goodSwapped_11 rfl (lv_at hl 1 rfl) ?_
  refine lv_iload_n hx hb dX7_goodSwapped_12 rfl (lv_at hl 2 rfl) ?_
  refine lv_iload_n hx hb dX7_goodSwapped_13 rfl (lv_at hl 3 rfl) ?_
  obtain ⟨u7, hc8, hR⟩ := ob1_e hR
  have hF := va_free (wc := wMo cI aM u4 hs) hD hS hA [0, 1, 2, 3, 4, 5, 6, 7, 8] rfl
  refine va_callv (va_runV (As := [.int p1, .int p2]) (rest := []) ⟨hx, hb, hml, hown, hts⟩ (met_X7_swap l dC dI cI cZ cS aM u4 hs H2.size p1 p2 u7 hc8) (cwV 2 hts gX7_goodSwapped_X7_swap rfl rfl rfl (by decide +kernel) ⟨Nat.le_of_ble_eq_true rfl, Nat.le_of_ble_eq_true rfl⟩) (pV (wc := wMo cI aM u4 hs) (ci := 7) (q0 := 0) hK hP hD hN [0, 1, 2, 3, 4, 5, 6, 7, 8] rfl (by decide) rfl rfl) rfl rfl hl.1 rfl (lv_room (Nat.le_of_ble_eq_true rfl)) dX7_goodSwapped_14 ⟨Nat.zero_le _, Nat.zero_le _⟩) hS (fun q _ h => hF q h) hF (fun  u7 t H3 locs ht hvm hw hB hz1 hk1 hS => ?_)
  try dsimp only at hw hB
  rw [ht] at hB
  cases hw
  have hP := wrk (w2 := wMo cI aM u7 hs) hP hD [0, 1, 2, 3, 4, 5, 6, 7, 8] rfl (by decide) hk1 hB rfl rfl
  have hD := D_addr (w1 := wMo cI aM u7 hs) hD rfl
  refine lv_iload_n hx hb dX7_goodSwapped_17 rfl (lv_at hl 0 rfl) ?_
  exact W.zret (v := r3) (ty := .boolean) hx hb hr nb6 (fun t ht hW => ⟨⟨r3, u7, rfl, ⟨Option.some.inj hR, nb6⟩, P_at ht hP⟩, hS.F ht⟩) hS.2.2 dX7_goodSwapped_18
abbrev rm_X7_exchange : Room := { frames := 7, cells := 0, slots := 0, locals := 157 }
abbrev q_X7_exchange (dC : Nat → ClassId) (dI : Nat → Nat → Nat) (cI cZ cS : ClassId) (aM : Nat → Nat) (hs : Int64) (res : Int32 × Pic) (A : Nat → Prop) : Array Value → State → Outcome → State → Prop := va_Qi (fun (r : Int32) (u : Pic) => (r, u) = res) (fun u t => va_P (dC, dI) vwCl (wMo cI aM u hs) t.heap) A
set_option maxHeartbeats 4000000 in
set_option maxRecDepth 100000 in
theorem met_X7_exchange (l : Launch) (dC : Nat → ClassId) (dI : Nat → Nat → Nat) (cI cZ cS : ClassId) (aM : Nat → Nat) (M : Pic) (hs : Int64) (sz : Nat) (p1 : Int32) (p2 : Int32) (res : Int32 × Pic) (hR : f7_exchange M p1 p2 = some res) : Met l yX7_exchange wsX7_exchange rm_X7_exchange (va_Pc [.ref (aM 0), .int p1, .int p2] (pW (dC, dI) (tyS cI cZ cS) (wMo cI aM M hs) sz)) (q_X7_exchange dC dI cI cZ cS aM hs res (va_A (wMo cI aM M hs) sz)) 0 0 (va_A (wMo cI aM M hs) sz) := by
  refine Met.ofW (cc := cX7_exchange) (maxL := 3) (ret := (some .int)) (by decide) rfl ?_
  intro p e s m args below meth c s₁ B hml hv
  obtain ⟨rfl, hsz, hP, hK, hD0, hN⟩ := hv
  have hx := B.exec
  have hb := B.bytes
  have hr := B.returns
  have hts := atoms_spec (ws := wsX7_exchange) B.pre
  have hown : s.vm.findClass RX7 = some m.cls := findClass_of_methodNamed B.named
  have hlocks := B.notSynchronized
  subst hsz
  have hD := hD0.self (sz := s.heap.size)
  generalize hAe : va_A (wMo cI aM M hs) s.heap.size = A at hD ⊢
  have hA : ∀ q : Nat, s.heap.size ≤ q → A q := fun q h => by rw [← hAe]; exact Or.inr h
  have hS : va_S A s.heap s.heap [] := va_S.rf
  have hP : va_P (dC, dI) vwCl (wMo cI aM M hs) s.heap := hP
  rw [f7_exchange] at hR
  have hin7 : ∀ w ∈ wsX70, w ∈ wsX7_exchange := by decide +kernel
  have hl := lv_entry ([.ref (aM 0), .int p1, .int p2]) (n := 3) (Nat.le_of_ble_eq_true rfl)
  rw [lg_entry_eq]
  generalize (lg_sl ([.ref (aM 0), .int p1, .int p2]) ++ List.replicate (3 - (lg_sl ([.ref (aM 0), .int p1, .int p2])).length) Slot.unset).toArray = ls at hl ⊢
  have hl : lv_has ls 3 [(0, .ref (aM 0)), (1, .int p1), (2, .int p2)] := hl
  refine lv_aload_n hx hb dX7_exchange_0 rfl (lv_at hl 0 rfl) ?_
  refine lv_iload_n hx hb dX7_exchange_1 rfl (lv_at hl 1 rfl) ?_
  refine va_calli (va_runS (As := [.int p1]) (rest := [.ref (aM 0)]) ⟨hx, hb, hml, hown, hts⟩ (met_X7_isDay l dC dI cI cZ cS s.heap.size p1) (va_cwS 1 hts gX7_exchange_X7_isDay rfl rfl rfl (by decide +kernel) ⟨Nat.le_of_ble_eq_true rfl, Nat.le_of_ble_eq_true rfl⟩) (pS (wc := []) hK hP hD hN [] rfl (by decide)) rfl rfl hl.1 rfl (lv_room (Nat.le_of_ble_eq_true rfl)) dX7_exchange_2 ⟨Nat.zero_le _, Nat.zero_le _⟩) hS (fun q _ h => a0_in hS hA q h) (a0_in hS hA) (fun r1 u t H1 locs ht hvm hw hB hz1 hk1 hS => ?_)
  obtain ⟨hw, nb2⟩ := hw
  subst hw
  have hP := rdk hP hk1
  refine lv_if_eq (tgt := 19) hx hb dX7_exchange_5 (by decide) (fun c_3 => ?_) (fun c_3 => ?_)
  · rw [if_pos c_3] at hR
    refine lv_iconst (v := (1 : Int32)) hx hb dX7_exchange_19 (by decide) ?_
    refine va_put (D := (dC, dI)) (ci := 7) (v := .int (1 : Int32)) (ty := .int) (C := RX7) (T := TX7) (N := 15) hx hb hts hin7 tyX7 tyX7_ok nmX7 hown hK hP hD hS 0 rfl rfl 7 (by decide) (hw_ hts 1 rfl) (fun _ h9 => h9) rfl (by decide +kernel) rfl rfl (Nat.le_of_ble_eq_true rfl) dX7_exchange_20 (fun H2 locs hP hD hS => ?_)
    have hP : va_P (dC, dI) vwCl (wMo cI aM (pset M 7 (fun _ => (1 : Int32))) hs) H2 := hP
    have hD : va_D A (wMo cI aM (pset M 7 (fun _ => (1 : Int32))) hs) := hD
    refine lv_aload_n hx hb dX7_exchange_23 rfl (lv_at hl 0 rfl) ?_
    refine va_get (D := (dC, dI)) (ci := 7) (v := .int (1 : Int32)) (C := RX7) (T := TX7) (N := 15) hx hb hts hin7 hown hK hP 0 rfl rfl 7 (by decide) (hw_ hts 1 rfl) (fun _ h9 => h9) rfl dX7_exchange_24 ?_
    refine lv_if_ne (tgt := 48) hx hb dX7_exchange_27 (by decide) (fun _ => ?_) (fun q => absurd q (by decide))
    refine lv_aload_n hx hb dX7_exchange_48 rfl (lv_at hl 0 rfl) ?_
    refine va_get (D := (dC, dI)) (ci := 7) (v := .int (1 : Int32)) (C := RX7) (T := TX7) (N := 15) hx hb hts hin7 hown hK hP 0 rfl rfl 7 (by decide) (hw_ hts 1 rfl) (fun _ h9 => h9) rfl dX7_exchange_49 ?_
    refine lv_if_le (tgt := 57) hx hb dX7_exchange_52 (by decide) (fun q => absurd q (by decide)) (fun _ => ?_)
    refine lv_iconst (v := (0 : Int32)) hx hb dX7_exchange_55 (by decide) ?_
    exact W.iret (v := (0 : Int32)) hx hb hr (fun t ht hW => ⟨⟨(0 : Int32), (pset M 7 (fun _ => (1 : Int32))), rfl, Option.some.inj hR, P_at ht hP⟩, hS.F ht⟩) hS.2.2 dX7_exchange_56
  · rw [if_neg c_3] at hR
    refine lv_iload_n hx hb dX7_exchange_8 rfl (lv_at hl 2 rfl) ?_
    refine va_calli (va_runS (As := [.int p2]) (rest := [.ref (aM 0)]) ⟨hx, hb, hml, hown, hts⟩ (met_X7_isDay l dC dI cI cZ cS H1.size p2) (va_cwS 1 hts gX7_exchange_X7_isDay rfl rfl rfl (by decide +kernel) ⟨Nat.le_of_ble_eq_true rfl, Nat.le_of_ble_eq_true rfl⟩) (pS (wc := []) hK hP hD hN [] rfl (by decide)) rfl rfl hl.1 rfl (lv_room (Nat.le_of_ble_eq_true rfl)) dX7_exchange_9 ⟨Nat.zero_le _, Nat.zero_le _⟩) hS (fun q _ h => a0_in hS hA q h) (a0_in hS hA) (fun r4 u t H2 locs ht hvm hw hB hz1 hk1 hS => ?_)
    obtain ⟨hw, nb5⟩ := hw
    subst hw
    have hP := rdk hP hk1
    refine lv_if_eq (tgt := 19) hx hb dX7_exchange_12 (by decide) (fun c_6 => ?_) (fun c_6 => ?_)
    · rw [if_pos c_6] at hR
      refine lv_iconst (v := (1 : Int32)) hx hb dX7_exchange_19 (by decide) ?_
      refine va_put (D := (dC, dI)) (ci := 7) (v := .int (1 : Int32)) (ty := .int) (C := RX7) (T := TX7) (N := 15) hx hb hts hin7 tyX7 tyX7_ok nmX7 hown hK hP hD hS 0 rfl rfl 7 (by decide) (hw_ hts 1 rfl) (fun _ h9 => h9) rfl (by decide +kernel) rfl rfl (Nat.le_of_ble_eq_true rfl) dX7_exchange_20 (fun H3 locs hP hD hS => ?_)
      have hP : va_P (dC, dI) vwCl (wMo cI aM (pset M 7 (fun _ => (1 : Int32))) hs) H3 := hP
      have hD : va_D A (wMo cI aM (pset M 7 (fun _ => (1 : Int32))) hs) := hD
      refine lv_aload_n hx hb dX7_exchange_23 rfl (lv_at hl 0 rfl) ?_
      refine va_get (D := (dC, dI)) (ci := 7) (v := .int (1 : Int32)) (C := RX7) (T := TX7) (N := 15) hx hb hts hin7 hown hK hP 0 rfl rfl 7 (by decide) (hw_ hts 1 rfl) (fun _ h9 => h9) rfl dX7_exchange_24 ?_
      refine lv_if_ne (tgt := 48) hx hb dX7_exchange_27 (by decide) (fun _ => ?_) (fun q => absurd q (by decide))
      refine lv_aload_n hx hb dX7_exchange_48 rfl (lv_at hl 0 rfl) ?_
      refine va_get (D := (dC, dI)) (ci := 7) (v := .int (1 : Int32)) (C := RX7) (T := TX7) (N := 15) hx hb hts hin7 hown hK hP 0 rfl rfl 7 (by decide) (hw_ hts 1 rfl) (fun _ h9 => h9) rfl dX7_exchange_49 ?_
      refine lv_if_le (tgt := 57) hx hb dX7_exchange_52 (by decide) (fun q => absurd q (by decide)) (fun _ => ?_)
      refine lv_iconst (v := (0 : Int32)) hx hb dX7_exchange_55 (by decide) ?_
      exact W.iret (v := (0 : Int32)) hx hb hr (fun t ht hW => ⟨⟨(0 : Int32), (pset M 7 (fun _ => (1 : Int32))), rfl, Option.some.inj hR, P_at ht hP⟩, hS.F ht⟩) hS.2.2 dX7_exchange_56
    · rw [if_neg c_6] at hR
      refine lv_iconst (v := (0 : Int32)) hx hb dX7_exchange_15 (by decide) ?_
      refine lv_goto (tgt := 20) hx hb dX7_exchange_16 (by decide) ?_
      refine va_put (D := (dC, dI)) (ci := 7) (v := .int (0 : Int32)) (ty := .int) (C := RX7) (T := TX7) (N := 15) hx hb hts hin7 tyX7 tyX7_ok nmX7 hown hK hP hD hS 0 rfl rfl 7 (by decide) (hw_ hts 1 rfl) (fun _ h9 => h9) rfl (by decide +kernel) rfl rfl (Nat.le_of_ble_eq_true rfl) dX7_exchange_20 (fun H3 locs hP hD hS => ?_)
      have hP : va_P (dC, dI) vwCl (wMo cI aM (pset M 7 (fun _ => (0 : Int32))) hs) H3 := hP
      have hD : va_D A (wMo cI aM (pset M 7 (fun _ => (0 : Int32))) hs) := hD
      refine lv_aload_n hx hb dX7_exchange_23 rfl (lv_at hl 0 rfl) ?_
      refine va_get (D := (dC, dI)) (ci := 7) (v := .int (0 : Int32)) (C := RX7) (T := TX7) (N := 15) hx hb hts hin7 hown hK hP 0 rfl rfl 7 (by decide) (hw_ hts 1 rfl) (fun _ h9 => h9) rfl dX7_exchange_24 ?_
      refine lv_if_ne (tgt := 48) hx hb dX7_exchange_27 (by decide) (fun q => absurd (by decide) q) (fun _ => ?_)
      refine lv_aload_n hx hb dX7_exchange_30 rfl (lv_at hl 0 rfl) ?_
      refine lv_aload_n hx hb dX7_exchange_31 rfl (lv_at hl 0 rfl) ?_
      refine lv_iload_n hx hb dX7_exchange_32 rfl (lv_at hl 1 rfl) ?_
      refine lv_iload_n hx hb dX7_exchange_33 rfl (lv_at hl 2 rfl) ?_
      obtain ⟨r7, u8, hc9, hR⟩ := ob2_e hR
      have hF := va_free (wc := wMo cI aM (pset M 7 (fun _ => (0 : Int32))) hs) hD hS hA [0, 1, 2, 3, 4, 5, 6, 7, 8] rfl
      refine va_calli (va_runV (As := [.int p1, .int p2]) (rest := [.ref (aM 0)]) ⟨hx, hb, hml, hown, hts⟩ (met_X7_goodSwapped l dC dI cI cZ cS aM (pset M 7 (fun _ => (0 : Int32))) hs H3.size p1 p2 (r7, u8) hc9) (cwV 2 hts gX7_exchange_X7_goodSwapped rfl rfl rfl (by decide +kernel) ⟨Nat.le_of_ble_eq_true rfl, Nat.le_of_ble_eq_true rfl⟩) (pV (wc := wMo cI aM (pset M 7 (fun _ => (0 : Int32))) hs) (ci := 7) (q0 := 0) hK hP hD hN [0, 1, 2, 3, 4, 5, 6, 7, 8] rfl (by decide) rfl rfl) rfl rfl hl.1 rfl (lv_room (Nat.le_of_ble_eq_true rfl)) dX7_exchange_34 ⟨Nat.zero_le _, Nat.zero_le _⟩) hS (fun q _ h => hF q h) hF (fun r7 u8 t H4 locs ht hvm hw hB hz1 hk1 hS => ?_)
      obtain ⟨hw, nb10⟩ := hw
      try dsimp only at hw hB
      rw [ht] at hB
      cases hw
      have hP := wrk (w2 := wMo cI aM u8 hs) hP hD [0, 1, 2, 3, 4, 5, 6, 7, 8] rfl (by decide) hk1 hB rfl rfl
      have hD := D_addr (w1 := wMo cI aM u8 hs) hD rfl
      refine lv_if_eq (tgt := 44) hx hb dX7_exchange_37 (by decide) (fun c_11 => ?_) (fun c_11 => ?_)
      · rw [if_pos c_11] at hR
        refine lv_iconst (v := (2 : Int32)) hx hb dX7_exchange_44 (by decide) ?_
        refine va_put (D := (dC, dI)) (ci := 7) (v := .int (2 : Int32)) (ty := .int) (C := RX7) (T := TX7) (N := 15) hx hb hts hin7 tyX7 tyX7_ok nmX7 hown hK hP hD hS 0 rfl rfl 7 (by decide) (hw_ hts 1 rfl) (fun _ h9 => h9) rfl (by decide +kernel) rfl rfl (Nat.le_of_ble_eq_true rfl) dX7_exchange_45 (fun H5 locs hP hD hS => ?_)
        have hP : va_P (dC, dI) vwCl (wMo cI aM (pset u8 7 (fun _ => (2 : Int32))) hs) H5 := hP
        have hD : va_D A (wMo cI aM (pset u8 7 (fun _ => (2 : Int32))) hs) := hD
        refine lv_aload_n hx hb dX7_exchange_48 rfl (lv_at hl 0 rfl) ?_
        refine va_get (D := (dC, dI)) (ci := 7) (v := .int (2 : Int32)) (C := RX7) (T := TX7) (N := 15) hx hb hts hin7 hown hK hP 0 rfl rfl 7 (by decide) (hw_ hts 1 rfl) (fun _ h9 => h9) rfl dX7_exchange_49 ?_
        refine lv_if_le (tgt := 57) hx hb dX7_exchange_52 (by decide) (fun q => absurd q (by decide)) (fun _ => ?_)
        refine lv_iconst (v := (0 : Int32)) hx hb dX7_exchange_55 (by decide) ?_
        exact W.iret (v := (0 : Int32)) hx hb hr (fun t ht hW => ⟨⟨(0 : Int32), (pset u8 7 (fun _ => (2 : Int32))), rfl, Option.some.inj hR, P_at ht hP⟩, hS.F ht⟩) hS.2.2 dX7_exchange_56
      · rw [if_neg c_11] at hR
        refine lv_iconst (v := (0 : Int32)) hx hb dX7_exchange_40 (by decide) ?_
        refine lv_goto (tgt := 45) hx hb dX7_exchange_41 (by decide) ?_
        refine va_put (D := (dC, dI)) (ci := 7) (v := .int (0 : Int32)) (ty := .int) (C := RX7) (T := TX7) (N := 15) hx hb hts hin7 tyX7 tyX7_ok nmX7 hown hK hP hD hS 0 rfl rfl 7 (by decide) (hw_ hts 1 rfl) (fun _ h9 => h9) rfl (by decide +kernel) rfl rfl (Nat.le_of_ble_eq_true rfl) dX7_exchange_45 (fun H5 locs hP hD hS => ?_)
        have hP : va_P (dC, dI) vwCl (wMo cI aM (pset u8 7 (fun _ => (0 : Int32))) hs) H5 := hP
        have hD : va_D A (wMo cI aM (pset u8 7 (fun _ => (0 : Int32))) hs) := hD
        refine lv_aload_n hx hb dX7_exchange_48 rfl (lv_at hl 0 rfl) ?_
        refine va_get (D := (dC, dI)) (ci := 7) (v := .int (0 : Int32)) (C := RX7) (T := TX7) (N := 15) hx hb hts hin7 hown hK hP 0 rfl rfl 7 (by decide) (hw_ hts 1 rfl) (fun _ h9 => h9) rfl dX7_exchange_49 ?_
        refine lv_if_le (tgt := 57) hx hb dX7_exchange_52 (by decide) (fun _ => ?_) (fun q => absurd (by decide) q)
        refine lv_aload_n hx hb dX7_exchange_57 rfl (lv_at hl 0 rfl) ?_
        obtain ⟨u12, hc13, hR⟩ := ob1_e hR
        have hF := va_free (wc := wMo cI aM (pset u8 7 (fun _ => (0 : Int32))) hs) hD hS hA [0, 1, 2, 3, 4, 5, 6, 7, 8] rfl
        refine va_callv (va_runV (As := []) (rest := []) ⟨hx, hb, hml, hown, hts⟩ (met_X7_save l dC dI cI cZ cS aM (pset u8 7 (fun _ => (0 : Int32))) hs H5.size u12 hc13) (cwV 0 hts gX7_exchange_X7_save rfl rfl rfl (by decide +kernel) ⟨Nat.le_of_ble_eq_true rfl, Nat.le_of_ble_eq_true rfl⟩) (pV (wc := wMo cI aM (pset u8 7 (fun _ => (0 : Int32))) hs) (ci := 7) (q0 := 0) hK hP hD hN [0, 1, 2, 3, 4, 5, 6, 7, 8] rfl (by decide) rfl rfl) rfl rfl hl.1 rfl (lv_room (Nat.le_of_ble_eq_true rfl)) dX7_exchange_58 ⟨Nat.zero_le _, Nat.zero_le _⟩) hS (fun q _ h => hF q h) hF (fun  u12 t H6 locs ht hvm hw hB hz1 hk1 hS => ?_)
        try dsimp only at hw hB
        rw [ht] at hB
        cases hw
        have hP := wrk (w2 := wMo cI aM u12 hs) hP hD [0, 1, 2, 3, 4, 5, 6, 7, 8] rfl (by decide) hk1 hB rfl rfl
        have hD := D_addr (w1 := wMo cI aM u12 hs) hD rfl
        refine lv_aload_n hx hb dX7_exchange_61 rfl (lv_at hl 0 rfl) ?_
        refine lv_iload_n hx hb dX7_exchange_62 rfl (lv_at hl 1 rfl) ?_
        refine lv_iload_n hx hb dX7_exchange_63 rfl (lv_at hl 2 rfl) ?_
        obtain ⟨u14, hc15, hR⟩ := ob1_e hR
        have hF := va_free (wc := wMo cI aM u12 hs) hD hS hA [0, 1, 2, 3, 4, 5, 6, 7, 8] rfl
        refine va_callv (va_runV (As := [.int p1, .int p2]) (rest := []) ⟨hx, hb, hml, hown, hts⟩ (met_X7_swap l dC dI cI cZ cS aM u12 hs H6.size p1 p2 u14 hc15) (cwV 2 hts gX7_exchange_X7_swap rfl rfl rfl (by decide +kernel) ⟨Nat.le_of_ble_eq_true rfl, Nat.le_of_ble_eq_true rfl⟩) (pV (wc := wMo cI aM u12 hs) (ci := 7) (q0 := 0) hK hP hD hN [0, 1, 2, 3, 4, 5, 6, 7, 8] rfl (by decide) rfl rfl) rfl rfl hl.1 rfl (lv_room (Nat.le_of_ble_eq_true rfl)) dX7_exchange_64 ⟨Nat.zero_le _, Nat.zero_le _⟩) hS (fun q _ h => hF q h) hF (fun  u14 t H7 locs ht hvm hw hB hz1 hk1 hS => ?_)
        try dsimp only at hw hB
        rw [ht] at hB
        cases hw
        have hP := wrk (w2 := wMo cI aM u14 hs) hP hD [0, 1, 2, 3, 4, 5, 6, 7, 8] rfl (by decide) hk1 hB rfl rfl
        have hD := D_addr (w1 := wMo cI aM u14 hs) hD rfl
        refine lv_aload_n hx hb dX7_exchange_67 rfl (lv_at hl 0 rfl) ?_
        obtain ⟨r16, hc17, hR⟩ := ob1_e hR
        refine va_calli (va_runV (As := []) (rest := []) ⟨hx, hb, hml, hown, hts⟩ (met_X7_joyOfAll l dC dI cI cZ cS aM u14 hs H7.size r16 hc17) (cwV 0 hts gX7_exchange_X7_joyOfAll rfl rfl rfl (by decide +kernel) ⟨Nat.le_of_ble_eq_true rfl, Nat.le_of_ble_eq_true rfl⟩) (pV (wc := wMo cI aM u14 hs) (ci := 7) (q0 := 0) hK hP hD hN [0, 1, 2, 3, 4, 5, 6, 7, 8] rfl (by decide) rfl rfl) rfl rfl hl.1 rfl (lv_room (Nat.le_of_ble_eq_true rfl)) dX7_exchange_68 ⟨Nat.zero_le _, Nat.zero_le _⟩) hS (fun q _ h => a0_in hS hA q h) (a0_in hS hA) (fun r16 u t H8 locs ht hvm hw hB hz1 hk1 hS => ?_)
        cases hw
        have hP := rdk hP hk1
        exact W.iret (v := r16) hx hb hr (fun t ht hW => ⟨⟨r16, u14, rfl, Option.some.inj hR, P_at ht hP⟩, hS.F ht⟩) hS.2.2 dX7_exchange_71
abbrev rm_X7_bestFor : Room := { frames := 7, cells := 0, slots := 0, locals := 162 }
abbrev q_X7_bestFor (dC : Nat → ClassId) (dI : Nat → Nat → Nat) (cI cZ cS : ClassId) (aM : Nat → Nat) (hs : Int64) (res : Int32 × Pic) (A : Nat → Prop) : Array Value → State → Outcome → State → Prop := va_Qi (fun (r : Int32) (u : Pic) => (r, u) = res) (fun u t => va_P (dC, dI) vwCl (wMo cI aM u hs) t.heap) A
set_option maxHeartbeats 4000000 in
set_option maxRecDepth 100000 in
theorem met_X7_bestFor (l : Launch) (dC : Nat → ClassId) (dI : Nat → Nat → Nat) (cI cZ cS : ClassId) (aM : Nat → Nat) (M : Pic) (hs : Int64) (sz : Nat) (p1 : Int32) (p2 : Int32) (res : Int32 × Pic) (hR : f7_bestFor M p1 p2 = some res) : Met l yX7_bestFor wsX7_bestFor rm_X7_bestFor (va_Pc [.ref (aM 0), .int p1, .int p2] (pW (dC, dI) (tyS cI cZ cS) (wMo cI aM M hs) sz)) (q_X7_bestFor dC dI cI cZ cS aM hs res (va_A (wMo cI aM M hs) sz)) 0 0 (va_A (wMo cI aM M hs) sz) := by
  refine Met.ofW (cc := cX7_bestFor) (maxL := 6) (ret := (some .int)) (by decide) rfl ?_
  intro p e s m args below meth c s₁ B hml hv
  obtain ⟨rfl, hsz, hP, hK, hD0, hN⟩ := hv
  have hx := B.exec
  have hb := B.bytes
  have hr := B.returns
  have hts := atoms_spec (ws := wsX7_bestFor) B.pre
  have hown : s.vm.findClass RX7 = some m.cls := findClass_of_methodNamed B.named
  have hlocks := B.notSynchronized
  subst hsz
  have hD := hD0.self (sz := s.heap.size)
  generalize hAe : va_A (wMo cI aM M hs) s.heap.size = A at hD ⊢
  have hA : ∀ q : Nat, s.heap.size ≤ q → A q := fun q h => by rw [← hAe]; exact Or.inr h
  have hS : va_S A s.heap s.heap [] := va_S.rf
  have hP : va_P (dC, dI) vwCl (wMo cI aM M hs) s.heap := hP
  rw [f7_bestFor] at hR
  have hin7 : ∀ w ∈ wsX70, w ∈ wsX7_bestFor := by decide +kernel
  have hl := lv_entry ([.ref (aM 0), .int p1, .int p2]) (n := 6) (Nat.le_of_ble_eq_true rfl)
  rw [lg_entry_eq]
  generalize (lg_sl ([.ref (aM 0), .int p1, .int p2]) ++ List.replicate (6 - (lg_sl ([.ref (aM 0), .int p1, .int p2])).length) Slot.unset).toArray = ls at hl ⊢
  have hl : lv_has ls 6 [(0, .ref (aM 0)), (1, .int p1), (2, .int p2)] := hl
  refine lv_iconst (v := (-1 : Int32)) hx hb dX7_bestFor_0 (by decide) ?_
  refine lv_istore_n (lv' := [(3, .int (-1 : Int32)), (0, .ref (aM 0)), (1, .int p1), (2, .int p2)]) hx hb dX7_bestFor_1 rfl hl (by decide) rfl (fun ls hl => ?_)
  refine lv_iconst (v := (0 : Int32)) hx hb dX7_bestFor_2 (by decide) ?_
  refine lv_istore (lv' := [(4, .int (0 : Int32)), (3, .int (-1 : Int32)), (0, .ref (aM 0)), (1, .int p1), (2, .int p2)]) hx hb dX7_bestFor_3 hl (by decide) rfl (fun ls hl => ?_)
  have LOOP5 : ∀ (k : Int32 → Pic → (Option (Int32 × Pic))), (∀ (x3_5 : Int32) (M_5 : Pic) (H1 : Heap) (locs : List Loc), k x3_5 M_5 = some res → va_P (dC, dI) vwCl (wMo cI aM M_5 hs) H1 → va_D A (wMo cI aM M_5 hs) → va_S A s.heap H1 locs → ∀ (ls : Array Slot), lv_has ls 6 [(3, .int x3_5)] → W p l e (headSpec wsX7_bestFor rm_X7_bestFor).room s m ([.ref (aM 0), .int p1, .int p2] : List Value).toArray below meth c H1 locs 0 0 (MQ below (q_X7_bestFor dC dI cI cZ cS aM hs res A) ([.ref (aM 0), .int p1, .int p2] : List Value).toArray s 0 0 A) (F0 m 91 ls [])) → ∀ (nf : Nat) (x3_5 : Int32) (x4_5 : Int32) (M_5 : Pic) (H1 : Heap) (locs : List Loc), f7_bestFor_L5 p1 p2 nf x3_5 x4_5 M_5 k = some res → va_P (dC, dI) vwCl (wMo cI aM M_5 hs) H1 → va_D A (wMo cI aM M_5 hs) → va_S A s.heap H1 locs → ∀ (ls : Array Slot), lv_has ls 6 [(3, .int x3_5), (4, .int x4_5), (0, .ref (aM 0)), (1, .int p1), (2, .int p2)] → W p l e (headSpec wsX7_bestFor rm_X7_bestFor).room s m ([.ref (aM 0), .int p1, .int p2] : List Value).toArray below meth c H1 locs 0 0 (MQ below (q_X7_bestFor dC dI cI cZ cS aM hs res A) ([.ref (aM 0), .int p1, .int p2] : List Value).toArray s 0 0 A) (F0 m 5 ls []) := by
    intro k hk nf
    induction nf with
    | zero =>
      intro x3_5 x4_5 M_5 H1 locs hR hP hD hS ls hl
      rw [f7_bestFor_L5] at hR
      cases hR
    | succ nf ih =>
      intro x3_5 x4_5 M_5 H1 locs hR hP hD hS ls hl
      rw [f7_bestFor_L5] at hR
      refine lv_iload hx hb dX7_bestFor_5 (lv_at hl 1 rfl) ?_
      refine lv_aload_n hx hb dX7_bestFor_7 rfl (lv_at hl 2 rfl) ?_
      refine va_get (D := (dC, dI)) (ci := 7) (v := .ref (aM 1)) (C := RX7) (T := TX7) (N := 15) hx hb hts hin7 hown hK hP 0 rfl rfl 0 (by decide) (hw_ hts 1 rfl) (fun _ h9 => h9) rfl dX7_bestFor_8 ?_
      refine lv_iconst (v := (3 : Int32)) hx hb dX7_bestFor_11 (by decide) ?_
      refine va_iald (f := (M_5 0)) hx hb hK hP 1 0 rfl rfl (vp_in_nI (n := 3) (by decide) (by decide)) dX7_bestFor_12 ?_
      refine lv_icmp_ge (tgt := 91) hx hb dX7_bestFor_13 (by decide) (fun c_1 => ?_) (fun c_1 => ?_)
      · rw [if_pos c_1] at hR
        exact hk x3_5 M_5 _ _  hR hP hD hS ls (lv_sub hl [0] rfl)
      · rw [if_neg c_1] at hR
        refine lv_aload_n hx hb dX7_bestFor_16 rfl (lv_at hl 2 rfl) ?_
        refine lv_iload_n hx hb dX7_bestFor_17 rfl (lv_at hl 3 rfl) ?_
        refine lv_iload_n hx hb dX7_bestFor_18 rfl (lv_at hl 4 rfl) ?_
        refine lv_iload hx hb dX7_bestFor_19 (lv_at hl 1 rfl) ?_
        obtain ⟨r2, u3, hc4, hR⟩ := ob2_e hR
        have hF := va_free (wc := wMo cI aM M_5 hs) hD hS hA [0, 1, 2, 3, 4, 5, 6, 7, 8] rfl
        refine va_calli (va_runV (As := [.int p1, .int p2, .int x4_5]) (rest := []) ⟨hx, hb, hml, hown, hts⟩ (met_X7_reason l dC dI cI cZ cS aM M_5 hs H1.size p1 p2 x4_5 (r2, u3) hc4) (cwV 3 hts gX7_bestFor_X7_reason rfl rfl rfl (by decide +kernel) ⟨Nat.le_of_ble_eq_true rfl, Nat.le_of_ble_eq_true rfl⟩) (pV (wc := wMo cI aM M_5 hs) (ci := 7) (q0 := 0) hK hP hD hN [0, 1, 2, 3, 4, 5, 6, 7, 8] rfl (by decide) rfl rfl) rfl rfl hl.1 rfl (lv_room (Nat.le_of_ble_eq_true rfl)) dX7_bestFor_21 ⟨Nat.zero_le _, Nat.zero_le _⟩) hS (fun q _ h => hF q h) hF (fun r2 u3 t H2 locs ht hvm hw hB hz1 hk1 hS => ?_)
        try dsimp only at hw hB
        rw [ht] at hB
        cases hw
        have hP := wrk (w2 := wMo cI aM u3 hs) hP hD [0, 1, 2, 3, 4, 5, 6, 7, 8] rfl (by decide) hk1 hB rfl rfl
        have hD := D_addr (w1 := wMo cI aM u3 hs) hD rfl
        refine lv_if_ne (tgt := 85) hx hb dX7_bestFor_24 (by decide) (fun c_5 => ?_) (fun c_5 => ?_)
        · rw [if_neg c_5] at hR
          refine lv_iinc (v := (x4_5 + 1)) (lv' := [(4, .int (x4_5 + 1)), (3, .int x3_5), (0, .ref (aM 0)), (1, .int p1), (2, .int p2)]) hx hb dX7_bestFor_85 hl (k := 1) rfl rfl (by decide) rfl (fun ls hl => ?_)
          refine lv_goto (tgt := 5) hx hb dX7_bestFor_88 (by decide) ?_
          exact ih x3_5 (x4_5 + 1) u3 _ _  hR hP hD hS ls (lv_sub hl [1, 0, 2, 3, 4] rfl)
        · rw [if_pos c_5] at hR
          refine lv_iload_n hx hb dX7_bestFor_27 rfl (lv_at hl 0 rfl) ?_
          refine lv_iconst (v := (-1 : Int32)) hx hb dX7_bestFor_28 (by decide) ?_
          refine lv_icmp_ne (tgt := 36) hx hb dX7_bestFor_29 (by decide) (fun c_6 => ?_) (fun c_6 => ?_)
          · rw [if_neg c_6] at hR
            refine lv_aload_n hx hb dX7_bestFor_36 rfl (lv_at hl 2 rfl) ?_
            refine lv_iload_n hx hb dX7_bestFor_37 rfl (lv_at hl 3 rfl) ?_
            refine lv_iload hx hb dX7_bestFor_38 (lv_at hl 1 rfl) ?_
            obtain ⟨r7, hc8, hR⟩ := ob1_e hR
            refine va_calli (va_runV (As := [.int p1, .int x4_5]) (rest := []) ⟨hx, hb, hml, hown, hts⟩ (met_X7_joyNow l dC dI cI cZ cS aM u3 hs H2.size p1 x4_5 r7 hc8) (cwV 2 hts gX7_bestFor_X7_joyNow rfl rfl rfl (by decide +kernel) ⟨Nat.le_of_ble_eq_true rfl, Nat.le_of_ble_eq_true rfl⟩) (pV (wc := wMo cI aM u3 hs) (ci := 7) (q0 := 0) hK hP hD hN [0, 1, 2, 3, 4, 5, 6, 7, 8] rfl (by decide) rfl rfl) rfl rfl hl.1 rfl (lv_room (Nat.le_of_ble_eq_true rfl)) dX7_bestFor_40 ⟨Nat.zero_le _, Nat.zero_le _⟩) hS (fun q _ h => a0_in hS hA q h) (a0_in hS hA) (fun r7 u t H3 locs ht hvm hw hB hz1 hk1 hS => ?_)
            cases hw
            have hP := rdk hP hk1
            refine lv_aload_n hx hb dX7_bestFor_43 rfl (lv_at hl 2 rfl) ?_
            refine lv_iload_n hx hb dX7_bestFor_44 rfl (lv_at hl 3 rfl) ?_
            refine lv_iload_n hx hb dX7_bestFor_45 rfl (lv_at hl 0 rfl) ?_
            obtain ⟨r9, hc10, hR⟩ := ob1_e hR
            refine va_calli (va_runV (As := [.int p1, .int x3_5]) (rest := [.int r7]) ⟨hx, hb, hml, hown, hts⟩ (met_X7_joyNow l dC dI cI cZ cS aM u3 hs H3.size p1 x3_5 r9 hc10) (cwV 2 hts gX7_bestFor_X7_joyNow rfl rfl rfl (by decide +kernel) ⟨Nat.le_of_ble_eq_true rfl, Nat.le_of_ble_eq_true rfl⟩) (pV (wc := wMo cI aM u3 hs) (ci := 7) (q0 := 0) hK hP hD hN [0, 1, 2, 3, 4, 5, 6, 7, 8] rfl (by decide) rfl rfl) rfl rfl hl.1 rfl (lv_room (Nat.le_of_ble_eq_true rfl)) dX7_bestFor_46 ⟨Nat.zero_le _, Nat.zero_le _⟩) hS (fun q _ h => a0_in hS hA q h) (a0_in hS hA) (fun r9 u t H4 locs ht hvm hw hB hz1 hk1 hS => ?_)
            cases hw
            have hP := rdk hP hk1
            refine lv_isub hx hb dX7_bestFor_49 ?_
            refine lv_topi (fun v11 hv11 => ?_)
            have hR := bd_n hv11 hR
            refine lv_istore (lv' := [(5, .int v11), (3, .int x3_5), (4, .int x4_5), (0, .ref (aM 0)), (1, .int p1), (2, .int p2)]) hx hb dX7_bestFor_50 hl (by decide) rfl (fun ls hl => ?_)
            refine lv_iload hx hb dX7_bestFor_52 (lv_at hl 0 rfl) ?_
            refine lv_if_gt (tgt := 78) hx hb dX7_bestFor_54 (by decide) (fun c_12 => ?_) (fun c_12 => ?_)
            · rw [if_pos c_12] at hR
              refine lv_iload hx hb dX7_bestFor_78 (lv_at hl 2 rfl) ?_
              refine lv_goto (tgt := 84) hx hb dX7_bestFor_80 (by decide) ?_
              refine lv_istore_n (lv' := [(3, .int x4_5), (5, .int v11), (4, .int x4_5), (0, .ref (aM 0)), (1, .int p1), (2, .int p2)]) hx hb dX7_bestFor_84 rfl hl (by decide) rfl (fun ls hl => ?_)
              refine lv_iinc (v := (x4_5 + 1)) (lv' := [(4, .int (x4_5 + 1)), (3, .int x4_5), (5, .int v11), (0, .ref (aM 0)), (1, .int p1), (2, .int p2)]) hx hb dX7_bestFor_85 hl (k := 2) rfl rfl (by decide) rfl (fun ls hl => ?_)
              refine lv_goto (tgt := 5) hx hb dX7_bestFor_88 (by decide) ?_
              exact ih x4_5 (x4_5 + 1) u3 _ _  hR hP hD hS ls (lv_sub hl [1, 0, 3, 4, 5] rfl)
            · rw [if_neg c_12] at hR
              refine lv_iload hx hb dX7_bestFor_57 (lv_at hl 0 rfl) ?_
              refine lv_if_ne (tgt := 83) hx hb dX7_bestFor_59 (by decide) (fun c_13 => ?_) (fun c_13 => ?_)
              · rw [if_neg c_13] at hR
                refine lv_iload_n hx hb dX7_bestFor_83 rfl (lv_at hl 1 rfl) ?_
                refine lv_istore_n (lv' := [(3, .int x3_5), (5, .int v11), (4, .int x4_5), (0, .ref (aM 0)), (1, .int p1), (2, .int p2)]) hx hb dX7_bestFor_84 rfl hl (by decide) rfl (fun ls hl => ?_)
                refine lv_iinc (v := (x4_5 + 1)) (lv' := [(4, .int (x4_5 + 1)), (3, .int x3_5), (5, .int v11), (0, .ref (aM 0)), (1, .int p1), (2, .int p2)]) hx hb dX7_bestFor_85 hl (k := 2) rfl rfl (by decide) rfl (fun ls hl => ?_)
                refine lv_goto (tgt := 5) hx hb dX7_bestFor_88 (by decide) ?_
                exact ih x3_5 (x4_5 + 1) u3 _ _  hR hP hD hS ls (lv_sub hl [1, 0, 3, 4, 5] rfl)
              · rw [if_pos c_13] at hR
                refine lv_aload_n hx hb dX7_bestFor_62 rfl (lv_at hl 3 rfl) ?_
                refine lv_iload hx hb dX7_bestFor_63 (lv_at hl 2 rfl) ?_
                refine lv_iconst (v := (1 : Int32)) hx hb dX7_bestFor_65 (by decide) ?_
                obtain ⟨r14, hc15, hR⟩ := ob1_e hR
                refine va_calli (va_runV (As := [.int x4_5, .int (1 : Int32)]) (rest := []) ⟨hx, hb, hml, hown, hts⟩ (met_X7_of l dC dI cI cZ cS aM u3 hs H4.size x4_5 (1 : Int32) r14 hc15) (cwV 2 hts gX7_bestFor_X7_of rfl rfl rfl (by decide +kernel) ⟨Nat.le_of_ble_eq_true rfl, Nat.le_of_ble_eq_true rfl⟩) (pV (wc := wMo cI aM u3 hs) (ci := 7) (q0 := 0) hK hP hD hN [0, 1, 2, 3, 4, 5, 6, 7, 8] rfl (by decide) rfl rfl) rfl rfl hl.1 rfl (lv_room (Nat.le_of_ble_eq_true rfl)) dX7_bestFor_66 ⟨Nat.zero_le _, Nat.zero_le _⟩) hS (fun q _ h => a0_in hS hA q h) (a0_in hS hA) (fun r14 u t H5 locs ht hvm hw hB hz1 hk1 hS => ?_)
                cases hw
                have hP := rdk hP hk1
                refine lv_aload_n hx hb dX7_bestFor_69 rfl (lv_at hl 3 rfl) ?_
                refine lv_iload_n hx hb dX7_bestFor_70 rfl (lv_at hl 1 rfl) ?_
                refine lv_iconst (v := (1 : Int32)) hx hb dX7_bestFor_71 (by decide) ?_
                obtain ⟨r16, hc17, hR⟩ := ob1_e hR
                refine va_calli (va_runV (As := [.int x3_5, .int (1 : Int32)]) (rest := [.int r14]) ⟨hx, hb, hml, hown, hts⟩ (met_X7_of l dC dI cI cZ cS aM u3 hs H5.size x3_5 (1 : Int32) r16 hc17) (cwV 2 hts gX7_bestFor_X7_of rfl rfl rfl (by decide +kernel) ⟨Nat.le_of_ble_eq_true rfl, Nat.le_of_ble_eq_true rfl⟩) (pV (wc := wMo cI aM u3 hs) (ci := 7) (q0 := 0) hK hP hD hN [0, 1, 2, 3, 4, 5, 6, 7, 8] rfl (by decide) rfl rfl) rfl rfl hl.1 rfl (lv_room (Nat.le_of_ble_eq_true rfl)) dX7_bestFor_72 ⟨Nat.zero_le _, Nat.zero_le _⟩) hS (fun q _ h => a0_in hS hA q h) (a0_in hS hA) (fun r16 u t H6 locs ht hvm hw hB hz1 hk1 hS => ?_)
                cases hw
                have hP := rdk hP hk1
                refine lv_icmp_ge (tgt := 83) hx hb dX7_bestFor_75 (by decide) (fun c_18 => ?_) (fun c_18 => ?_)
                · rw [if_pos c_18] at hR
                  refine lv_iload_n hx hb dX7_bestFor_83 rfl (lv_at hl 1 rfl) ?_
                  refine lv_istore_n (lv' := [(3, .int x3_5), (5, .int v11), (4, .int x4_5), (0, .ref (aM 0)), (1, .int p1), (2, .int p2)]) hx hb dX7_bestFor_84 rfl hl (by decide) rfl (fun ls hl => ?_)
                  refine lv_iinc (v := (x4_5 + 1)) (lv' := [(4, .int (x4_5 + 1)), (3, .int x3_5), (5, .int v11), (0, .ref (aM 0)), (1, .int p1), (2, .int p2)]) hx hb dX7_bestFor_85 hl (k := 2) rfl rfl (by decide) rfl (fun ls hl => ?_)
                  refine lv_goto (tgt := 5) hx hb dX7_bestFor_88 (by decide) ?_
                  exact ih x3_5 (x4_5 + 1) u3 _ _  hR hP hD hS ls (lv_sub hl [1, 0, 3, 4, 5] rfl)
                · rw [if_neg c_18] at hR
                  refine lv_iload hx hb dX7_bestFor_78 (lv_at hl 2 rfl) ?_
                  refine lv_goto (tgt := 84) hx hb dX7_bestFor_80 (by decide) ?_
                  refine lv_istore_n (lv' := [(3, .int x4_5), (5, .int v11), (4, .int x4_5), (0, .ref (aM 0)), (1, .int p1), (2, .int p2)]) hx hb dX7_bestFor_84 rfl hl (by decide) rfl (fun ls hl => ?_)
                  refine lv_iinc (v := (x4_5 + 1)) (lv' := [(4, .int (x4_5 + 1)), (3, .int x4_5), (5, .int v11), (0, .ref (aM 0)), (1, .int p1), (2, .int p2)]) hx hb dX7_bestFor_85 hl (k := 2) rfl rfl (by decide) rfl (fun ls hl => ?_)
                  refine lv_goto (tgt := 5) hx hb dX7_bestFor_88 (by decide) ?_
                  exact ih x4_5 (x4_5 + 1) u3 _ _  hR hP hD hS ls (lv_sub hl [1, 0, 3, 4, 5] rfl)
          · rw [if_pos c_6] at hR
            refine lv_iconst (v := (1 : Int32)) hx hb dX7_bestFor_32 (by decide) ?_
            refine lv_goto (tgt := 50) hx hb dX7_bestFor_33 (by decide) ?_
            refine lv_istore (lv' := [(5, .int (1 : Int32)), (3, .int x3_5), (4, .int x4_5), (0, .ref (aM 0)), (1, .int p1), (2, .int p2)]) hx hb dX7_bestFor_50 hl (by decide) rfl (fun ls hl => ?_)
            refine lv_iload hx hb dX7_bestFor_52 (lv_at hl 0 rfl) ?_
            refine lv_if_gt (tgt := 78) hx hb dX7_bestFor_54 (by decide) (fun _ => ?_) (fun q => absurd (by decide) q)
            refine lv_iload hx hb dX7_bestFor_78 (lv_at hl 2 rfl) ?_
            refine lv_goto (tgt := 84) hx hb dX7_bestFor_80 (by decide) ?_
            refine lv_istore_n (lv' := [(3, .int x4_5), (5, .int (1 : Int32)), (4, .int x4_5), (0, .ref (aM 0)), (1, .int p1), (2, .int p2)]) hx hb dX7_bestFor_84 rfl hl (by decide) rfl (fun ls hl => ?_)
            refine lv_iinc (v := (x4_5 + 1)) (lv' := [(4, .int (x4_5 + 1)), (3, .int x4_5), (5, .int (1 : Int32)), (0, .ref (aM 0)), (1, .int p1), (2, .int p2)]) hx hb dX7_bestFor_85 hl (k := 2) rfl rfl (by decide) rfl (fun ls hl => ?_)
            refine lv_goto (tgt := 5) hx hb dX7_bestFor_88 (by decide) ?_
            exact ih x4_5 (x4_5 + 1) u3 _ _  hR hP hD hS ls (lv_sub hl [1, 0, 3, 4, 5] rfl)
  refine LOOP5 (fun x3_5 M_5 => (some (x3_5, M_5))) (fun x3_5 M_5 H1 locs hR hP hD hS ls hl => ?_) 13 (-1 : Int32) (0 : Int32) M _ _  hR hP hD hS ls (lv_sub hl [1, 0, 2, 3, 4] rfl)
  try dsimp only at hR
  refine lv_iload_n hx hb dX7_bestFor_91 rfl (lv_at hl 0 rfl) ?_
  exact W.iret (v := x3_5) hx hb hr (fun t ht hW => ⟨⟨x3_5, M_5, rfl, Option.some.inj hR, P_at ht hP⟩, hS.F ht⟩) hS.2.2 dX7_bestFor_92
abbrev rm_X7_fill : Room := { frames := 8, cells := 0, slots := 0, locals := 187 }
abbrev q_X7_fill (dC : Nat → ClassId) (dI : Nat → Nat → Nat) (cI cZ cS : ClassId) (aM : Nat → Nat) (hs : Int64) (res : Int32 × Pic) (A : Nat → Prop) : Array Value → State → Outcome → State → Prop := va_Qi (fun (r : Int32) (u : Pic) => (r, u) = res) (fun u t => va_P (dC, dI) vwCl (wMo cI aM u hs) t.heap) A
set_option maxHeartbeats 4000000 in
set_option maxRecDepth 100000 in
theorem met_X7_fill (l : Launch) (dC : Nat → ClassId) (dI : Nat → Nat → Nat) (cI cZ cS : ClassId) (aM : Nat → Nat) (M : Pic) (hs : Int64) (sz : Nat) (p1 : Int32) (res : Int32 × Pic) (hR : f7_fill M p1 = some res) : Met l yX7_fill wsX7_fill rm_X7_fill (va_Pc [.ref (aM 0), .int p1] (pW (dC, dI) (tyS cI cZ cS) (wMo cI aM M hs) sz)) (q_X7_fill dC dI cI cZ cS aM hs res (va_A (wMo cI aM M hs) sz)) 0 0 (va_A (wMo cI aM M hs) sz) := by
  refine Met.ofW (cc := cX7_fill) (maxL := 5) (ret := (some .int)) (by decide) rfl ?_
  intro p e s m args below meth c s₁ B hml hv
  obtain ⟨rfl, hsz, hP, hK, hD0, hN⟩ := hv
  have hx := B.exec
  have hb := B.bytes
  have hr := B.returns
  have hts := atoms_spec (ws := wsX7_fill) B.pre
  have hown : s.vm.findClass RX7 = some m.cls := findClass_of_methodNamed B.named
  have hlocks := B.notSynchronized
  subst hsz
  have hD := hD0.self (sz := s.heap.size)
  generalize hAe : va_A (wMo cI aM M hs) s.heap.size = A at hD ⊢
  have hA : ∀ q : Nat, s.heap.size ≤ q → A q := fun q h => by rw [← hAe]; exact Or.inr h
  have hS : va_S A s.heap s.heap [] := va_S.rf
  have hP : va_P (dC, dI) vwCl (wMo cI aM M hs) s.heap := hP
  rw [f7_fill] at hR
  have hin7 : ∀ w ∈ wsX70, w ∈ wsX7_fill := by decide +kernel
  have hl := lv_entry ([.ref (aM 0), .int p1]) (n := 5) (Nat.le_of_ble_eq_true rfl)
  rw [lg_entry_eq]
  generalize (lg_sl ([.ref (aM 0), .int p1]) ++ List.replicate (5 - (lg_sl ([.ref (aM 0), .int p1])).length) Slot.unset).toArray = ls at hl ⊢
  have hl : lv_has ls 5 [(0, .ref (aM 0)), (1, .int p1)] := hl
  refine lv_aload_n hx hb dX7_fill_0 rfl (lv_at hl 0 rfl) ?_
  refine lv_iload_n hx hb dX7_fill_1 rfl (lv_at hl 1 rfl) ?_
  refine va_calli (va_runS (As := [.int p1]) (rest := [.ref (aM 0)]) ⟨hx, hb, hml, hown, hts⟩ (met_X7_isDay l dC dI cI cZ cS s.heap.size p1) (va_cwS 1 hts gX7_fill_X7_isDay rfl rfl rfl (by decide +kernel) ⟨Nat.le_of_ble_eq_true rfl, Nat.le_of_ble_eq_true rfl⟩) (pS (wc := []) hK hP hD hN [] rfl (by decide)) rfl rfl hl.1 rfl (lv_room (Nat.le_of_ble_eq_true rfl)) dX7_fill_2 ⟨Nat.zero_le _, Nat.zero_le _⟩) hS (fun q _ h => a0_in hS hA q h) (a0_in hS hA) (fun r1 u t H1 locs ht hvm hw hB hz1 hk1 hS => ?_)
  obtain ⟨hw, nb2⟩ := hw
  subst hw
  have hP := rdk hP hk1
  refine lv_if_eq (tgt := 12) hx hb dX7_fill_5 (by decide) (fun c_3 => ?_) (fun c_3 => ?_)
  · rw [if_pos c_3] at hR
    refine lv_iconst (v := (1 : Int32)) hx hb dX7_fill_12 (by decide) ?_
    refine va_put (D := (dC, dI)) (ci := 7) (v := .int (1 : Int32)) (ty := .int) (C := RX7) (T := TX7) (N := 15) hx hb hts hin7 tyX7 tyX7_ok nmX7 hown hK hP hD hS 0 rfl rfl 7 (by decide) (hw_ hts 1 rfl) (fun _ h9 => h9) rfl (by decide +kernel) rfl rfl (Nat.le_of_ble_eq_true rfl) dX7_fill_13 (fun H2 locs hP hD hS => ?_)
    have hP : va_P (dC, dI) vwCl (wMo cI aM (pset M 7 (fun _ => (1 : Int32))) hs) H2 := hP
    have hD : va_D A (wMo cI aM (pset M 7 (fun _ => (1 : Int32))) hs) := hD
    refine lv_aload_n hx hb dX7_fill_16 rfl (lv_at hl 0 rfl) ?_
    refine va_get (D := (dC, dI)) (ci := 7) (v := .int (1 : Int32)) (C := RX7) (T := TX7) (N := 15) hx hb hts hin7 hown hK hP 0 rfl rfl 7 (by decide) (hw_ hts 1 rfl) (fun _ h9 => h9) rfl dX7_fill_17 ?_
    refine lv_if_le (tgt := 25) hx hb dX7_fill_20 (by decide) (fun q => absurd q (by decide)) (fun _ => ?_)
    refine lv_iconst (v := (0 : Int32)) hx hb dX7_fill_23 (by decide) ?_
    exact W.iret (v := (0 : Int32)) hx hb hr (fun t ht hW => ⟨⟨(0 : Int32), (pset M 7 (fun _ => (1 : Int32))), rfl, Option.some.inj hR, P_at ht hP⟩, hS.F ht⟩) hS.2.2 dX7_fill_24
  · rw [if_neg c_3] at hR
    refine lv_iconst (v := (0 : Int32)) hx hb dX7_fill_8 (by decide) ?_
    refine lv_goto (tgt := 13) hx hb dX7_fill_9 (by decide) ?_
    refine va_put (D := (dC, dI)) (ci := 7) (v := .int (0 : Int32)) (ty := .int) (C := RX7) (T := TX7) (N := 15) hx hb hts hin7 tyX7 tyX7_ok nmX7 hown hK hP hD hS 0 rfl rfl 7 (by decide) (hw_ hts 1 rfl) (fun _ h9 => h9) rfl (by decide +kernel) rfl rfl (Nat.le_of_ble_eq_true rfl) dX7_fill_13 (fun H2 locs hP hD hS => ?_)
    have hP : va_P (dC, dI) vwCl (wMo cI aM (pset M 7 (fun _ => (0 : Int32))) hs) H2 := hP
    have hD : va_D A (wMo cI aM (pset M 7 (fun _ => (0 : Int32))) hs) := hD
    refine lv_aload_n hx hb dX7_fill_16 rfl (lv_at hl 0 rfl) ?_
    refine va_get (D := (dC, dI)) (ci := 7) (v := .int (0 : Int32)) (C := RX7) (T := TX7) (N := 15) hx hb hts hin7 hown hK hP 0 rfl rfl 7 (by decide) (hw_ hts 1 rfl) (fun _ h9 => h9) rfl dX7_fill_17 ?_
    refine lv_if_le (tgt := 25) hx hb dX7_fill_20 (by decide) (fun _ => ?_) (fun q => absurd (by decide) q)
    refine lv_aload_n hx hb dX7_fill_25 rfl (lv_at hl 0 rfl) ?_
    obtain ⟨u4, hc5, hR⟩ := ob1_e hR
    have hF := va_free (wc := wMo cI aM (pset M 7 (fun _ => (0 : Int32))) hs) hD hS hA [0, 1, 2, 3, 4, 5, 6, 7, 8] rfl
    refine va_callv (va_runV (As := []) (rest := []) ⟨hx, hb, hml, hown, hts⟩ (met_X7_save l dC dI cI cZ cS aM (pset M 7 (fun _ => (0 : Int32))) hs H2.size u4 hc5) (cwV 0 hts gX7_fill_X7_save rfl rfl rfl (by decide +kernel) ⟨Nat.le_of_ble_eq_true rfl, Nat.le_of_ble_eq_true rfl⟩) (pV (wc := wMo cI aM (pset M 7 (fun _ => (0 : Int32))) hs) (ci := 7) (q0 := 0) hK hP hD hN [0, 1, 2, 3, 4, 5, 6, 7, 8] rfl (by decide) rfl rfl) rfl rfl hl.1 rfl (lv_room (Nat.le_of_ble_eq_true rfl)) dX7_fill_26 ⟨Nat.zero_le _, Nat.zero_le _⟩) hS (fun q _ h => hF q h) hF (fun  u4 t H3 locs ht hvm hw hB hz1 hk1 hS => ?_)
    try dsimp only at hw hB
    rw [ht] at hB
    cases hw
    have hP := wrk (w2 := wMo cI aM u4 hs) hP hD [0, 1, 2, 3, 4, 5, 6, 7, 8] rfl (by decide) hk1 hB rfl rfl
    have hD := D_addr (w1 := wMo cI aM u4 hs) hD rfl
    refine lv_iconst (v := (0 : Int32)) hx hb dX7_fill_29 (by decide) ?_
    refine lv_istore_n (lv' := [(2, .int (0 : Int32)), (0, .ref (aM 0)), (1, .int p1)]) hx hb dX7_fill_30 rfl hl (by decide) rfl (fun ls hl => ?_)
    refine lv_iconst (v := (0 : Int32)) hx hb dX7_fill_31 (by decide) ?_
    refine lv_istore_n (lv' := [(3, .int (0 : Int32)), (2, .int (0 : Int32)), (0, .ref (aM 0)), (1, .int p1)]) hx hb dX7_fill_32 rfl hl (by decide) rfl (fun ls hl => ?_)
    have LOOP33 : ∀ (k : Int32 → Pic → (Option (Int32 × Pic))), (∀ (x2_33 : Int32) (M_33 : Pic) (H4 : Heap) (locs : List Loc), k x2_33 M_33 = some res → va_P (dC, dI) vwCl (wMo cI aM M_33 hs) H4 → va_D A (wMo cI aM M_33 hs) → va_S A s.heap H4 locs → ∀ (ls : Array Slot), lv_has ls 5 [(2, .int x2_33)] → W p l e (headSpec wsX7_fill rm_X7_fill).room s m ([.ref (aM 0), .int p1] : List Value).toArray below meth c H4 locs 0 0 (MQ below (q_X7_fill dC dI cI cZ cS aM hs res A) ([.ref (aM 0), .int p1] : List Value).toArray s 0 0 A) (F0 m 69 ls [])) → ∀ (nf : Nat) (x2_33 : Int32) (x3_33 : Int32) (M_33 : Pic) (H4 : Heap) (locs : List Loc), ((3 : Int32)).toInt - (x3_33).toInt ≤ (nf : Int) → f7_fill_L33 p1 nf x2_33 x3_33 M_33 k = some res → va_P (dC, dI) vwCl (wMo cI aM M_33 hs) H4 → va_D A (wMo cI aM M_33 hs) → va_S A s.heap H4 locs → ∀ (ls : Array Slot), lv_has ls 5 [(2, .int x2_33), (3, .int x3_33), (0, .ref (aM 0)), (1, .int p1)] → W p l e (headSpec wsX7_fill rm_X7_fill).room s m ([.ref (aM 0), .int p1] : List Value).toArray below meth c H4 locs 0 0 (MQ below (q_X7_fill dC dI cI cZ cS aM hs res A) ([.ref (aM 0), .int p1] : List Value).toArray s 0 0 A) (F0 m 33 ls []) := by
      intro k hk nf
      induction nf with
      | zero =>
        intro x2_33 x3_33 M_33 H4 locs hfu hR hP hD hS ls hl
        rw [f7_fill_L33] at hR
        refine lv_iload_n hx hb dX7_fill_33 rfl (lv_at hl 1 rfl) ?_
        refine lv_iconst (v := (3 : Int32)) hx hb dX7_fill_34 (by decide) ?_
        refine lv_icmp_ge (tgt := 69) hx hb dX7_fill_35 (by decide) (fun c_6 => ?_) (fun c_6 => ?_)
        · skip
          exact hk x2_33 M_33 _ _  hR hP hD hS ls (lv_sub hl [0] rfl)
        · exact (fuel0 hfu c_6).elim
      | succ nf ih =>
        intro x2_33 x3_33 M_33 H4 locs hfu hR hP hD hS ls hl
        rw [f7_fill_L33] at hR
        refine lv_iload_n hx hb dX7_fill_33 rfl (lv_at hl 1 rfl) ?_
        refine lv_iconst (v := (3 : Int32)) hx hb dX7_fill_34 (by decide) ?_
        refine lv_icmp_ge (tgt := 69) hx hb dX7_fill_35 (by decide) (fun c_7 => ?_) (fun c_7 => ?_)
        · rw [if_pos c_7] at hR
          exact hk x2_33 M_33 _ _  hR hP hD hS ls (lv_sub hl [0] rfl)
        · rw [if_neg c_7] at hR
          have hfu := fuelS hfu c_7
          refine lv_aload_n hx hb dX7_fill_38 rfl (lv_at hl 2 rfl) ?_
          refine lv_iload_n hx hb dX7_fill_39 rfl (lv_at hl 3 rfl) ?_
          refine lv_iload_n hx hb dX7_fill_40 rfl (lv_at hl 1 rfl) ?_
          obtain ⟨r8, u9, hc10, hR⟩ := ob2_e hR
          have hF := va_free (wc := wMo cI aM M_33 hs) hD hS hA [0, 1, 2, 3, 4, 5, 6, 7, 8] rfl
          refine va_calli (va_runV (As := [.int p1, .int x3_33]) (rest := []) ⟨hx, hb, hml, hown, hts⟩ (met_X7_bestFor l dC dI cI cZ cS aM M_33 hs H4.size p1 x3_33 (r8, u9) hc10) (cwV 2 hts gX7_fill_X7_bestFor rfl rfl rfl (by decide +kernel) ⟨Nat.le_of_ble_eq_true rfl, Nat.le_of_ble_eq_true rfl⟩) (pV (wc := wMo cI aM M_33 hs) (ci := 7) (q0 := 0) hK hP hD hN [0, 1, 2, 3, 4, 5, 6, 7, 8] rfl (by decide) rfl rfl) rfl rfl hl.1 rfl (lv_room (Nat.le_of_ble_eq_true rfl)) dX7_fill_41 ⟨Nat.zero_le _, Nat.zero_le _⟩) hS (fun q _ h => hF q h) hF (fun r8 u9 t H5 locs ht hvm hw hB hz1 hk1 hS => ?_)
          try dsimp only at hw hB
          rw [ht] at hB
          cases hw
          have hP := wrk (w2 := wMo cI aM u9 hs) hP hD [0, 1, 2, 3, 4, 5, 6, 7, 8] rfl (by decide) hk1 hB rfl rfl
          have hD := D_addr (w1 := wMo cI aM u9 hs) hD rfl
          refine lv_istore (lv' := [(4, .int r8), (2, .int x2_33), (3, .int x3_33), (0, .ref (aM 0)), (1, .int p1)]) hx hb dX7_fill_44 hl (by decide) rfl (fun ls hl => ?_)
          refine lv_iload hx hb dX7_fill_46 (lv_at hl 0 rfl) ?_
          refine lv_iconst (v := (-1 : Int32)) hx hb dX7_fill_48 (by decide) ?_
          refine lv_icmp_eq (tgt := 63) hx hb dX7_fill_49 (by decide) (fun c_11 => ?_) (fun c_11 => ?_)
          · rw [if_pos c_11] at hR
            refine lv_iinc (v := (x3_33 + 1)) (lv' := [(3, .int (x3_33 + 1)), (4, .int r8), (2, .int x2_33), (0, .ref (aM 0)), (1, .int p1)]) hx hb dX7_fill_63 hl (k := 2) rfl rfl (by decide) rfl (fun ls hl => ?_)
            refine lv_goto (tgt := 33) hx hb dX7_fill_66 (by decide) ?_
            exact ih x2_33 (x3_33 + 1) u9 _ _ hfu hR hP hD hS ls (lv_sub hl [2, 0, 3, 4] rfl)
          · rw [if_neg c_11] at hR
            refine lv_aload_n hx hb dX7_fill_52 rfl (lv_at hl 3 rfl) ?_
            refine lv_iload_n hx hb dX7_fill_53 rfl (lv_at hl 4 rfl) ?_
            refine lv_iload_n hx hb dX7_fill_54 rfl (lv_at hl 2 rfl) ?_
            refine lv_iload hx hb dX7_fill_55 (lv_at hl 0 rfl) ?_
            obtain ⟨u12, hc13, hR⟩ := ob1_e hR
            have hF := va_free (wc := wMo cI aM u9 hs) hD hS hA [0, 1, 2, 3, 4, 5, 6, 7, 8] rfl
            refine va_callv (va_runV (As := [.int p1, .int x3_33, .int r8]) (rest := []) ⟨hx, hb, hml, hown, hts⟩ (met_X7_put l dC dI cI cZ cS aM u9 hs H5.size p1 x3_33 r8 u12 hc13) (cwV 3 hts gX7_fill_X7_put rfl rfl rfl (by decide +kernel) ⟨Nat.le_of_ble_eq_true rfl, Nat.le_of_ble_eq_true rfl⟩) (pV (wc := wMo cI aM u9 hs) (ci := 7) (q0 := 0) hK hP hD hN [0, 1, 2, 3, 4, 5, 6, 7, 8] rfl (by decide) rfl rfl) rfl rfl hl.1 rfl (lv_room (Nat.le_of_ble_eq_true rfl)) dX7_fill_57 ⟨Nat.zero_le _, Nat.zero_le _⟩) hS (fun q _ h => hF q h) hF (fun  u12 t H6 locs ht hvm hw hB hz1 hk1 hS => ?_)
            try dsimp only at hw hB
            rw [ht] at hB
            cases hw
            have hP := wrk (w2 := wMo cI aM u12 hs) hP hD [0, 1, 2, 3, 4, 5, 6, 7, 8] rfl (by decide) hk1 hB rfl rfl
            have hD := D_addr (w1 := wMo cI aM u12 hs) hD rfl
            refine lv_iinc (v := (x2_33 + 1)) (lv' := [(2, .int (x2_33 + 1)), (4, .int r8), (3, .int x3_33), (0, .ref (aM 0)), (1, .int p1)]) hx hb dX7_fill_60 hl (k := 1) rfl rfl (by decide) rfl (fun ls hl => ?_)
            refine lv_iinc (v := (x3_33 + 1)) (lv' := [(3, .int (x3_33 + 1)), (2, .int (x2_33 + 1)), (4, .int r8), (0, .ref (aM 0)), (1, .int p1)]) hx hb dX7_fill_63 hl (k := 2) rfl rfl (by decide) rfl (fun ls hl => ?_)
            refine lv_goto (tgt := 33) hx hb dX7_fill_66 (by decide) ?_
            exact ih (x2_33 + 1) (x3_33 + 1) u12 _ _ hfu hR hP hD hS ls (lv_sub hl [1, 0, 3, 4] rfl)
    refine LOOP33 (fun x2_33 M_33 => (some (x2_33, M_33))) (fun x2_33 M_33 H4 locs hR hP hD hS ls hl => ?_) 3 (0 : Int32) (0 : Int32) u4 _ _ (by decide) hR hP hD hS ls (lv_sub hl [1, 0, 2, 3] rfl)
    try dsimp only at hR
    refine lv_iload_n hx hb dX7_fill_69 rfl (lv_at hl 0 rfl) ?_
    exact W.iret (v := x2_33) hx hb hr (fun t ht hW => ⟨⟨x2_33, M_33, rfl, Option.some.inj hR, P_at ht hP⟩, hS.F ht⟩) hS.2.2 dX7_fill_70
abbrev rm_X7_dishesInPlan : Room := { frames := 0, cells := 0, slots := 0, locals := 0 }
abbrev q_X7_dishesInPlan (dC : Nat → ClassId) (dI : Nat → Nat → Nat) (cI cZ cS : ClassId) (aM : Nat → Nat)  (res : Int32) (A : Nat → Prop) : Array Value → State → Outcome → State → Prop := va_Qi (fun (r : Int32) (u : Unit) => r = res) (fun _ _ => True) A
set_option maxHeartbeats 4000000 in
set_option maxRecDepth 100000 in
theorem met_X7_dishesInPlan (l : Launch) (dC : Nat → ClassId) (dI : Nat → Nat → Nat) (cI cZ cS : ClassId) (aM : Nat → Nat) (M : Pic) (hs : Int64) (sz : Nat)  (res : Int32) (hR : f7_dishesInPlan M = some res) : Met l yX7_dishesInPlan wsX7_dishesInPlan rm_X7_dishesInPlan (va_Pc [.ref (aM 0)] (pW (dC, dI) (tyS cI cZ cS) (wMo cI aM M hs) sz)) (q_X7_dishesInPlan dC dI cI cZ cS aM res (a0 sz)) 0 0 (a0 sz) := by
  refine Met.ofW (cc := cX7_dishesInPlan) (maxL := 3) (ret := (some .int)) (by decide) rfl ?_
  intro p e s m args below meth c s₁ B hml hv
  obtain ⟨rfl, hsz, hP, hK, hD0, hN⟩ := hv
  have hx := B.exec
  have hb := B.bytes
  have hr := B.returns
  have hts := atoms_spec (ws := wsX7_dishesInPlan) B.pre
  have hown : s.vm.findClass RX7 = some m.cls := findClass_of_methodNamed B.named
  have hlocks := B.notSynchronized
  subst hsz
  have hD := hD0
  have hA : ∀ q : Nat, s.heap.size ≤ q → a0 s.heap.size q := fun q h => Or.inr h
  have hS : va_S (a0 s.heap.size) s.heap s.heap [] := va_S.rf
  have hP : va_P (dC, dI) vwCl (wMo cI aM M hs) s.heap := hP
  rw [f7_dishesInPlan] at hR
  have hin7 : ∀ w ∈ wsX70, w ∈ wsX7_dishesInPlan := by decide +kernel
  have hl := lv_entry ([.ref (aM 0)]) (n := 3) (Nat.le_of_ble_eq_true rfl)
  rw [lg_entry_eq]
  generalize (lg_sl ([.ref (aM 0)]) ++ List.replicate (3 - (lg_sl ([.ref (aM 0)])).length) Slot.unset).toArray = ls at hl ⊢
  have hl : lv_has ls 3 [(0, .ref (aM 0))] := hl
  refine lv_iconst (v := (0 : Int32)) hx hb dX7_dishesInPlan_0 (by decide) ?_
  refine lv_istore_n (lv' := [(1, .int (0 : Int32)), (0, .ref (aM 0))]) hx hb dX7_dishesInPlan_1 rfl hl (by decide) rfl (fun ls hl => ?_)
  refine lv_iconst (v := (0 : Int32)) hx hb dX7_dishesInPlan_2 (by decide) ?_
  refine lv_istore_n (lv' := [(2, .int (0 : Int32)), (1, .int (0 : Int32)), (0, .ref (aM 0))]) hx hb dX7_dishesInPlan_3 rfl hl (by decide) rfl (fun ls hl => ?_)
  have LOOP4 : ∀ (k : Int32 → (Option (Int32))), (∀ (x1_4 : Int32) (H1 : Heap) (locs : List Loc), k x1_4 = some res → va_P (dC, dI) vwCl (wMo cI aM M hs) H1 → va_D (fun _ => True) (wMo cI aM M hs) → va_S (a0 s.heap.size) s.heap H1 locs → ∀ (ls : Array Slot), lv_has ls 3 [(1, .int x1_4)] → W p l e (headSpec wsX7_dishesInPlan rm_X7_dishesInPlan).room s m ([.ref (aM 0)] : List Value).toArray below meth c H1 locs 0 0 (MQ below (q_X7_dishesInPlan dC dI cI cZ cS aM res (a0 s.heap.size)) ([.ref (aM 0)] : List Value).toArray s 0 0 (a0 s.heap.size)) (F0 m 37 ls [])) → ∀ (nf : Nat) (x1_4 : Int32) (x2_4 : Int32) (H1 : Heap) (locs : List Loc), ((84 : Int32)).toInt - (x2_4).toInt ≤ (nf : Int) → f7_dishesInPlan_L4 M nf x1_4 x2_4 k = some res → va_P (dC, dI) vwCl (wMo cI aM M hs) H1 → va_D (fun _ => True) (wMo cI aM M hs) → va_S (a0 s.heap.size) s.heap H1 locs → ∀ (ls : Array Slot), lv_has ls 3 [(1, .int x1_4), (2, .int x2_4), (0, .ref (aM 0))] → W p l e (headSpec wsX7_dishesInPlan rm_X7_dishesInPlan).room s m ([.ref (aM 0)] : List Value).toArray below meth c H1 locs 0 0 (MQ below (q_X7_dishesInPlan dC dI cI cZ cS aM res (a0 s.heap.size)) ([.ref (aM 0)] : List Value).toArray s 0 0 (a0 s.heap.size)) (F0 m 4 ls []) := by
    intro k hk nf
    induction nf with
    | zero =>
      intro x1_4 x2_4 H1 locs hfu hR hP hD hS ls hl
      rw [f7_dishesInPlan_L4] at hR
      refine lv_iload_n hx hb dX7_dishesInPlan_4 rfl (lv_at hl 1 rfl) ?_
      refine lv_bipush (v := (84 : Int32)) hx hb dX7_dishesInPlan_5 (by decide) ?_
      refine lv_icmp_ge (tgt := 37) hx hb dX7_dishesInPlan_7 (by decide) (fun c_1 => ?_) (fun c_1 => ?_)
      · skip
        exact hk x1_4 _ _  hR hP hD hS ls (lv_sub hl [0] rfl)
      · exact (fuel0 hfu c_1).elim
    | succ nf ih =>
      intro x1_4 x2_4 H1 locs hfu hR hP hD hS ls hl
      rw [f7_dishesInPlan_L4] at hR
      refine lv_iload_n hx hb dX7_dishesInPlan_4 rfl (lv_at hl 1 rfl) ?_
      refine lv_bipush (v := (84 : Int32)) hx hb dX7_dishesInPlan_5 (by decide) ?_
      refine lv_icmp_ge (tgt := 37) hx hb dX7_dishesInPlan_7 (by decide) (fun c_2 => ?_) (fun c_2 => ?_)
      · rw [if_pos c_2] at hR
        exact hk x1_4 _ _  hR hP hD hS ls (lv_sub hl [0] rfl)
      · rw [if_neg c_2] at hR
        have hfu := fuelS hfu c_2
        refine lv_iload_n hx hb dX7_dishesInPlan_10 rfl (lv_at hl 0 rfl) ?_
        refine lv_aload_n hx hb dX7_dishesInPlan_11 rfl (lv_at hl 2 rfl) ?_
        refine va_get (D := (dC, dI)) (ci := 7) (v := .ref (aM 1)) (C := RX7) (T := TX7) (N := 15) hx hb hts hin7 hown hK hP 0 rfl rfl 0 (by decide) (hw_ hts 1 rfl) (fun _ h9 => h9) rfl dX7_dishesInPlan_12 ?_
        refine lv_bipush (v := (89 : Int32)) hx hb dX7_dishesInPlan_15 (by decide) ?_
        refine lv_iload_n hx hb dX7_dishesInPlan_17 rfl (lv_at hl 1 rfl) ?_
        refine lv_iadd hx hb dX7_dishesInPlan_18 ?_
        obtain ⟨hix3, hR⟩ := ck_some hR
        refine va_iald (f := (M 0)) hx hb hK hP 1 0 rfl rfl hix3 dX7_dishesInPlan_19 ?_
        refine lv_iconst (v := (-1 : Int32)) hx hb dX7_dishesInPlan_20 (by decide) ?_
        refine lv_icmp_ne (tgt := 28) hx hb dX7_dishesInPlan_21 (by decide) (fun c_4 => ?_) (fun c_4 => ?_)
        · rw [if_neg c_4] at hR
          refine lv_iconst (v := (1 : Int32)) hx hb dX7_dishesInPlan_28 (by decide) ?_
          refine lv_iadd hx hb dX7_dishesInPlan_29 ?_
          refine lv_topi (fun v5 hv5 => ?_)
          have hR := bd_n hv5 hR
          refine lv_istore_n (lv' := [(1, .int v5), (2, .int x2_4), (0, .ref (aM 0))]) hx hb dX7_dishesInPlan_30 rfl hl (by decide) rfl (fun ls hl => ?_)
          refine lv_iinc (v := (x2_4 + 1)) (lv' := [(2, .int (x2_4 + 1)), (1, .int v5), (0, .ref (aM 0))]) hx hb dX7_dishesInPlan_31 hl (k := 1) rfl rfl (by decide) rfl (fun ls hl => ?_)
          refine lv_goto (tgt := 4) hx hb dX7_dishesInPlan_34 (by decide) ?_
          exact ih v5 (x2_4 + 1) _ _ hfu hR hP hD hS ls (lv_sub hl [1, 0, 2] rfl)
        · rw [if_pos c_4] at hR
          refine lv_iconst (v := (0 : Int32)) hx hb dX7_dishesInPlan_24 (by decide) ?_
          refine lv_goto (tgt := 29) hx hb dX7_dishesInPlan_25 (by decide) ?_
          refine lv_iadd hx hb dX7_dishesInPlan_29 ?_
          refine lv_topi (fun v6 hv6 => ?_)
          have hR := bd_n hv6 hR
          refine lv_istore_n (lv' := [(1, .int v6), (2, .int x2_4), (0, .ref (aM 0))]) hx hb dX7_dishesInPlan_30 rfl hl (by decide) rfl (fun ls hl => ?_)
          refine lv_iinc (v := (x2_4 + 1)) (lv' := [(2, .int (x2_4 + 1)), (1, .int v6), (0, .ref (aM 0))]) hx hb dX7_dishesInPlan_31 hl (k := 1) rfl rfl (by decide) rfl (fun ls hl => ?_)
          refine lv_goto (tgt := 4) hx hb dX7_dishesInPlan_34 (by decide) ?_
          exact ih v6 (x2_4 + 1) _ _ hfu hR hP hD hS ls (lv_sub hl [1, 0, 2] rfl)
  refine LOOP4 (fun x1_4 => (some x1_4)) (fun x1_4 H1 locs hR hP hD hS ls hl => ?_) 84 (0 : Int32) (0 : Int32) _ _ (by decide) hR hP hD hS ls (lv_sub hl [1, 0, 2] rfl)
  try dsimp only at hR
  refine lv_iload_n hx hb dX7_dishesInPlan_37 rfl (lv_at hl 0 rfl) ?_
  exact W.iret (v := x1_4) hx hb hr (fun t ht hW => ⟨⟨x1_4, (), rfl, Option.some.inj hR, trivial⟩, hS.F ht⟩) hS.2.2 dX7_dishesInPlan_38
abbrev rm_X7_clear : Room := { frames := 1, cells := 0, slots := 0, locals := 22 }
abbrev q_X7_clear (dC : Nat → ClassId) (dI : Nat → Nat → Nat) (cI cZ cS : ClassId) (aM : Nat → Nat) (hs : Int64) (res : Int32 × Pic) (A : Nat → Prop) : Array Value → State → Outcome → State → Prop := va_Qi (fun (r : Int32) (u : Pic) => (r, u) = res) (fun u t => va_P (dC, dI) vwCl (wMo cI aM u hs) t.heap) A
set_option maxHeartbeats 4000000 in
set_option maxRecDepth 100000 in
theorem met_X7_clear (l : Launch) (dC : Nat → ClassId) (dI : Nat → Nat → Nat) (cI cZ cS : ClassId) (aM : Nat → Nat) (M : Pic) (hs : Int64) (sz : Nat)  (res : Int32 × Pic) (hR : f7_clear M = some res) : Met l yX7_clear wsX7_clear rm_X7_clear (va_Pc [.ref (aM 0)] (pW (dC, dI) (tyS cI cZ cS) (wMo cI aM M hs) sz)) (q_X7_clear dC dI cI cZ cS aM hs res (va_A (wMo cI aM M hs) sz)) 0 0 (va_A (wMo cI aM M hs) sz) := by
  refine Met.ofW (cc := cX7_clear) (maxL := 3) (ret := (some .int)) (by decide) rfl ?_
  intro p e s m args below meth c s₁ B hml hv
  obtain ⟨rfl, hsz, hP, hK, hD0, hN⟩ := hv
  have hx := B.exec
  have hb := B.bytes
  have hr := B.returns
  have hts := atoms_spec (ws := wsX7_clear) B.pre
  have hown : s.vm.findClass RX7 = some m.cls := findClass_of_methodNamed B.named
  have hlocks := B.notSynchronized
  subst hsz
  have hD := hD0.self (sz := s.heap.size)
  generalize hAe : va_A (wMo cI aM M hs) s.heap.size = A at hD ⊢
  have hA : ∀ q : Nat, s.heap.size ≤ q → A q := fun q h => by rw [← hAe]; exact Or.inr h
  have hS : va_S A s.heap s.heap [] := va_S.rf
  have hP : va_P (dC, dI) vwCl (wMo cI aM M hs) s.heap := hP
  rw [f7_clear] at hR
  have hin7 : ∀ w ∈ wsX70, w ∈ wsX7_clear := by decide +kernel
  have hl := lv_entry ([.ref (aM 0)]) (n := 3) (Nat.le_of_ble_eq_true rfl)
  rw [lg_entry_eq]
  generalize (lg_sl ([.ref (aM 0)]) ++ List.replicate (3 - (lg_sl ([.ref (aM 0)])).length) Slot.unset).toArray = ls at hl ⊢
  have hl : lv_has ls 3 [(0, .ref (aM 0))] := hl
  refine lv_aload_n hx hb dX7_clear_0 rfl (lv_at hl 0 rfl) ?_
  refine lv_iconst (v := (0 : Int32)) hx hb dX7_clear_1 (by decide) ?_
  refine va_put (D := (dC, dI)) (ci := 7) (v := .int (0 : Int32)) (ty := .int) (C := RX7) (T := TX7) (N := 15) hx hb hts hin7 tyX7 tyX7_ok nmX7 hown hK hP hD hS 0 rfl rfl 7 (by decide) (hw_ hts 1 rfl) (fun _ h9 => h9) rfl (by decide +kernel) rfl rfl (Nat.le_of_ble_eq_true rfl) dX7_clear_2 (fun H1 locs hP hD hS => ?_)
  have hP : va_P (dC, dI) vwCl (wMo cI aM (pset M 7 (fun _ => (0 : Int32))) hs) H1 := hP
  have hD : va_D A (wMo cI aM (pset M 7 (fun _ => (0 : Int32))) hs) := hD
  refine lv_aload_n hx hb dX7_clear_5 rfl (lv_at hl 0 rfl) ?_
  obtain ⟨u1, hc2, hR⟩ := ob1_e hR
  have hF := va_free (wc := wMo cI aM (pset M 7 (fun _ => (0 : Int32))) hs) hD hS hA [0, 1, 2, 3, 4, 5, 6, 7, 8] rfl
  refine va_callv (va_runV (As := []) (rest := []) ⟨hx, hb, hml, hown, hts⟩ (met_X7_save l dC dI cI cZ cS aM (pset M 7 (fun _ => (0 : Int32))) hs H1.size u1 hc2) (cwV 0 hts gX7_clear_X7_save rfl rfl rfl (by decide +kernel) ⟨Nat.le_of_ble_eq_true rfl, Nat.le_of_ble_eq_true rfl⟩) (pV (wc := wMo cI aM (pset M 7 (fun _ => (0 : Int32))) hs) (ci := 7) (q0 := 0) hK hP hD hN [0, 1, 2, 3, 4, 5, 6, 7, 8] rfl (by decide) rfl rfl) rfl rfl hl.1 rfl (lv_room (Nat.le_of_ble_eq_true rfl)) dX7_clear_6 ⟨Nat.zero_le _, Nat.zero_le _⟩) hS (fun q _ h => hF q h) hF (fun  u1 t H2 locs ht hvm hw hB hz1 hk1 hS => ?_)
  try dsimp only at hw hB
  rw [ht] at hB
  cases hw
  have hP := wrk (w2 := wMo cI aM u1 hs) hP hD [0, 1, 2, 3, 4, 5, 6, 7, 8] rfl (by decide) hk1 hB rfl rfl
  have hD := D_addr (w1 := wMo cI aM u1 hs) hD rfl
  refine lv_aload_n hx hb dX7_clear_9 rfl (lv_at hl 0 rfl) ?_
  obtain ⟨r3, hc4, hR⟩ := ob1_e hR
  refine va_calli (va_runV (As := []) (rest := []) ⟨hx, hb, hml, hown, hts⟩ (met_X7_dishesInPlan l dC dI cI cZ cS aM u1 hs H2.size r3 hc4) (cwV 0 hts gX7_clear_X7_dishesInPlan rfl rfl rfl (by decide +kernel) ⟨Nat.le_of_ble_eq_true rfl, Nat.le_of_ble_eq_true rfl⟩) (pV (wc := wMo cI aM u1 hs) (ci := 7) (q0 := 0) hK hP hD hN [0, 1, 2, 3, 4, 5, 6, 7, 8] rfl (by decide) rfl rfl) rfl rfl hl.1 rfl (lv_room (Nat.le_of_ble_eq_true rfl)) dX7_clear_10 ⟨Nat.zero_le _, Nat.zero_le _⟩) hS (fun q _ h => a0_in hS hA q h) (a0_in hS hA) (fun r3 u t H3 locs ht hvm hw hB hz1 hk1 hS => ?_)
  cases hw
  have hP := rdk hP hk1
  refine lv_istore_n (lv' := [(1, .int r3), (0, .ref (aM 0))]) hx hb dX7_clear_13 rfl hl (by decide) rfl (fun ls hl => ?_)
  refine lv_iconst (v := (0 : Int32)) hx hb dX7_clear_14 (by decide) ?_
  refine lv_istore_n (lv' := [(2, .int (0 : Int32)), (1, .int r3), (0, .ref (aM 0))]) hx hb dX7_clear_15 rfl hl (by decide) rfl (fun ls hl => ?_)
  have LOOP16 : ∀ (k : Pic → (Option (Int32 × Pic))), (∀ (M_16 : Pic) (H4 : Heap) (locs : List Loc), k M_16 = some res → va_P (dC, dI) vwCl (wMo cI aM M_16 hs) H4 → va_D A (wMo cI aM M_16 hs) → va_S A s.heap H4 locs → ∀ (ls : Array Slot), lv_has ls 3 [(1, .int r3)] → W p l e (headSpec wsX7_clear rm_X7_clear).room s m ([.ref (aM 0)] : List Value).toArray below meth c H4 locs 0 0 (MQ below (q_X7_clear dC dI cI cZ cS aM hs res A) ([.ref (aM 0)] : List Value).toArray s 0 0 A) (F0 m 38 ls [])) → ∀ (nf : Nat) (x2_16 : Int32) (M_16 : Pic) (H4 : Heap) (locs : List Loc), ((84 : Int32)).toInt - (x2_16).toInt ≤ (nf : Int) → f7_clear_L16  nf x2_16 M_16 k = some res → va_P (dC, dI) vwCl (wMo cI aM M_16 hs) H4 → va_D A (wMo cI aM M_16 hs) → va_S A s.heap H4 locs → ∀ (ls : Array Slot), lv_has ls 3 [(2, .int x2_16), (1, .int r3), (0, .ref (aM 0))] → W p l e (headSpec wsX7_clear rm_X7_clear).room s m ([.ref (aM 0)] : List Value).toArray below meth c H4 locs 0 0 (MQ below (q_X7_clear dC dI cI cZ cS aM hs res A) ([.ref (aM 0)] : List Value).toArray s 0 0 A) (F0 m 16 ls []) := by
    intro k hk nf
    induction nf with
    | zero =>
      intro x2_16 M_16 H4 locs hfu hR hP hD hS ls hl
      rw [f7_clear_L16] at hR
      refine lv_iload_n hx hb dX7_clear_16 rfl (lv_at hl 0 rfl) ?_
      refine lv_bipush (v := (84 : Int32)) hx hb dX7_clear_17 (by decide) ?_
      refine lv_icmp_ge (tgt := 38) hx hb dX7_clear_19 (by decide) (fun c_5 => ?_) (fun c_5 => ?_)
      · skip
        exact hk M_16 _ _  hR hP hD hS ls (lv_sub hl [1] rfl)
      · exact (fuel0 hfu c_5).elim
    | succ nf ih =>
      intro x2_16 M_16 H4 locs hfu hR hP hD hS ls hl
      rw [f7_clear_L16] at hR
      refine lv_iload_n hx hb dX7_clear_16 rfl (lv_at hl 0 rfl) ?_
      refine lv_bipush (v := (84 : Int32)) hx hb dX7_clear_17 (by decide) ?_
      refine lv_icmp_ge (tgt := 38) hx hb dX7_clear_19 (by decide) (fun c_6 => ?_) (fun c_6 => ?_)
      · rw [if_pos c_6] at hR
        exact hk M_16 _ _  hR hP hD hS ls (lv_sub hl [1] rfl)
      · rw [if_neg c_6] at hR
        have hfu := fuelS hfu c_6
        refine lv_aload_n hx hb dX7_clear_22 rfl (lv_at hl 2 rfl) ?_
        refine va_get (D := (dC, dI)) (ci := 7) (v := .ref (aM 1)) (C := RX7) (T := TX7) (N := 15) hx hb hts hin7 hown hK hP 0 rfl rfl 0 (by decide) (hw_ hts 2 rfl) (fun _ h9 => h9) rfl dX7_clear_23 ?_
        refine lv_bipush (v := (89 : Int32)) hx hb dX7_clear_26 (by decide) ?_
        refine lv_iload_n hx hb dX7_clear_28 rfl (lv_at hl 0 rfl) ?_
        refine lv_iadd hx hb dX7_clear_29 ?_
        refine lv_iconst (v := (-1 : Int32)) hx hb dX7_clear_30 (by decide) ?_
        obtain ⟨hix7, hR⟩ := ck_some hR
        refine va_iast (f := (M_16 0)) hx hb hK hP hD hS 1 0 rfl rfl hix7 dX7_clear_31 (fun H5 locs hP hD hS => ?_)
        have hP : va_P (dC, dI) vwCl (wMo cI aM (pset M_16 0 (upd (M_16 0) (ix ((89 : Int32) + x2_16)) (-1 : Int32))) hs) H5 := hP
        have hD : va_D A (wMo cI aM (pset M_16 0 (upd (M_16 0) (ix ((89 : Int32) + x2_16)) (-1 : Int32))) hs) := hD
        obtain ⟨Mb8, hMb8⟩ : ∃ z : Pic, z = (pset M_16 0 (upd (M_16 0) (ix ((89 : Int32) + x2_16)) (-1 : Int32))) := ⟨_, rfl⟩
        rw [← hMb8] at hP hD
        have hR := bd_n hMb8 hR
        refine lv_iinc (v := (x2_16 + 1)) (lv' := [(2, .int (x2_16 + 1)), (1, .int r3), (0, .ref (aM 0))]) hx hb dX7_clear_32 hl (k := 0) rfl rfl (by decide) rfl (fun ls hl => ?_)
        refine lv_goto (tgt := 16) hx hb dX7_clear_35 (by decide) ?_
        exact ih (x2_16 + 1) Mb8 _ _ hfu hR hP hD hS ls (lv_sub hl [0, 1, 2] rfl)
  refine LOOP16 (fun M_16 => (some (r3, M_16))) (fun M_16 H4 locs hR hP hD hS ls hl => ?_) 84 (0 : Int32) u1 _ _ (by decide) hR hP hD hS ls (lv_sub hl [0, 1, 2] rfl)
  try dsimp only at hR
  refine lv_iload_n hx hb dX7_clear_38 rfl (lv_at hl 0 rfl) ?_
  exact W.iret (v := r3) hx hb hr (fun t ht hW => ⟨⟨r3, M_16, rfl, Option.some.inj hR, P_at ht hP⟩, hS.F ht⟩) hS.2.2 dX7_clear_39
