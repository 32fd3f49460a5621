abbrev rm_X4_keep : Room := { frames := 1, cells := 0, slots := 0, locals := 22 }
abbrev q_X4_keep (dC : Nat → ClassId) (dI : Nat → Nat → Nat) (cI cZ cS : ClassId) (aP : Nat → Nat) (q : Nat) (n : Nat) (hn : n < 2 ^ 31) (f : (Nat → Int32)) (res : Pic) (A : Nat → Prop) : Array Value → State → Outcome → State → Prop := va_Qv (fun (u : Pic) => u = res) (fun u t => va_P (dC, dI) vwCl (wSn cI cZ aP u ++ ([(q, .inl (cI, n, .inl f))])) t.heap) A
set_option maxHeartbeats 4000000 in
set_option maxRecDepth 100000 in
theorem met_X4_keep (l : Launch) (dC : Nat → ClassId) (dI : Nat → Nat → Nat) (cI cZ cS : ClassId) (aP : Nat → Nat) (q : Nat) (n : Nat) (hn : n < 2 ^ 31) (N : Pic) (f : (Nat → Int32)) (sz : Nat) (p1 : Int32) : Met l yX4_keep wsX4_keep rm_X4_keep (va_Pc [.ref (aP 0), .int p1, .ref q] (pW (dC, dI) (tyS cI cZ cS) (wSn cI cZ aP N ++ ([(q, .inl (cI, n, .inl f))])) sz)) (q_X4_keep dC dI cI cZ cS aP q n hn f (f4_keep n N f p1) (va_A (wSn cI cZ aP N ++ ([(q, .inl (cI, n, .inl f))])) sz)) 0 0 (va_A (wSn cI cZ aP N ++ ([(q, .inl (cI, n, .inl f))])) sz) := by
  refine Met.ofW (cc := cX4_keep) (maxL := 4) (ret := none) (by decide) rfl ?_
  intro p e s m args below meth c s₁ B hml hv
  obtain ⟨rfl, hsz, hP, hK, hD0, hN⟩ := hv
  have hx := B.exec
  have hb := B.bytes
  have hr := B.returns
  have hts := atoms_spec (ws := wsX4_keep) B.pre
  have hown : s.vm.findClass RX4 = some m.cls := findClass_of_methodNamed B.named
  have hlocks := B.notSynchronized
  subst hsz
  have hD := hD0.self (sz := s.heap.size)
  generalize hAe : va_A (wSn cI cZ aP N ++ ([(q, .inl (cI, n, .inl f))])) s.heap.size = A at hD ⊢
  have hA : ∀ q : Nat, s.heap.size ≤ q → A q := fun q h => by rw [← hAe]; exact Or.inr h
  have hS : va_S A s.heap s.heap [] := va_S.rf
  have hP : va_P (dC, dI) vwCl (wSn cI cZ aP N ++ ([(q, .inl (cI, n, .inl f))])) s.heap := hP
  generalize hR : f4_keep n N f p1 = res
  rw [f4_keep] at hR
  have hin4 : ∀ w ∈ wsX40, w ∈ wsX4_keep := by decide +kernel
  have hl := lv_entry ([.ref (aP 0), .int p1, .ref q]) (n := 4) (Nat.le_of_ble_eq_true rfl)
  rw [lg_entry_eq]
  generalize (lg_sl ([.ref (aP 0), .int p1, .ref q]) ++ List.replicate (4 - (lg_sl ([.ref (aP 0), .int p1, .ref q])).length) Slot.unset).toArray = ls at hl ⊢
  have hl : lv_has ls 4 [(0, .ref (aP 0)), (1, .int p1), (2, .ref q)] := hl
  refine lv_iconst (v := (0 : Int32)) hx hb dX4_keep_0 (by decide) ?_
  refine lv_istore_n (lv' := [(3, .int (0 : Int32)), (0, .ref (aP 0)), (1, .int p1), (2, .ref q)]) hx hb dX4_keep_1 rfl hl (by decide) rfl (fun ls hl => ?_)
  have LOOP2 : ∀ (k : Pic → Pic), (∀ (N_2 : Pic) (H1 : Heap) (locs : List Loc), k N_2 = res → va_P (dC, dI) vwCl (wSn cI cZ aP N_2 ++ ([(q, .inl (cI, n, .inl f))])) H1 → va_D A (wSn cI cZ aP N_2 ++ ([(q, .inl (cI, n, .inl f))])) → va_S A s.heap H1 locs → ∀ (ls : Array Slot), lv_has ls 4 [(0, .ref (aP 0)), (1, .int p1)] → W p l e (headSpec wsX4_keep rm_X4_keep).room s m ([.ref (aP 0), .int p1, .ref q] : List Value).toArray below meth c H1 locs 0 0 (MQ below (q_X4_keep dC dI cI cZ cS aP q n hn f res A) ([.ref (aP 0), .int p1, .ref q] : List Value).toArray s 0 0 A) (F0 m 32 ls [])) → ∀ (nf : Nat) (x3_2 : Int32) (N_2 : Pic) (H1 : Heap) (locs : List Loc), ((84 : Int32)).toInt - (x3_2).toInt ≤ (nf : Int) → f4_keep_L2 n f p1 nf x3_2 N_2 k = res → va_P (dC, dI) vwCl (wSn cI cZ aP N_2 ++ ([(q, .inl (cI, n, .inl f))])) H1 → va_D A (wSn cI cZ aP N_2 ++ ([(q, .inl (cI, n, .inl f))])) → va_S A s.heap H1 locs → ∀ (ls : Array Slot), lv_has ls 4 [(3, .int x3_2), (0, .ref (aP 0)), (1, .int p1), (2, .ref q)] → W p l e (headSpec wsX4_keep rm_X4_keep).room s m ([.ref (aP 0), .int p1, .ref q] : List Value).toArray below meth c H1 locs 0 0 (MQ below (q_X4_keep dC dI cI cZ cS aP q n hn f res A) ([.ref (aP 0), .int p1, .ref q] : List Value).toArray s 0 0 A) (F0 m 2 ls []) := by
    intro k hk nf
    induction nf with
    | zero =>
      intro x3_2 N_2 H1 locs hfu hR hP hD hS ls hl
      rw [f4_keep_L2] at hR
      refine lv_iload_n hx hb dX4_keep_2 rfl (lv_at hl 0 rfl) ?_
      refine lv_bipush (v := (84 : Int32)) hx hb dX4_keep_3 (by decide) ?_
      refine lv_icmp_ge (tgt := 32) hx hb dX4_keep_5 (by decide) (fun c_1 => ?_) (fun c_1 => ?_)
      · skip
        exact hk N_2 _ _  hR hP hD hS ls (lv_sub hl [1, 2] rfl)
      · exact (fuel0 hfu c_1).elim
    | succ nf ih =>
      intro x3_2 N_2 H1 locs hfu hR hP hD hS ls hl
      rw [f4_keep_L2] at hR
      refine lv_iload_n hx hb dX4_keep_2 rfl (lv_at hl 0 rfl) ?_
      refine lv_bipush (v := (84 : Int32)) hx hb dX4_keep_3 (by decide) ?_
      refine lv_icmp_ge (tgt := 32) hx hb dX4_keep_5 (by decide) (fun c_2 => ?_) (fun c_2 => ?_)
      · rw [if_pos c_2] at hR
        exact hk N_2 _ _  hR hP hD hS ls (lv_sub hl [1, 2] rfl)
      · rw [if_neg c_2] at hR
        have hfu := fuelS hfu c_2
        refine lv_aload_n hx hb dX4_keep_8 rfl (lv_at hl 1 rfl) ?_
        refine va_get (D := (dC, dI)) (ci := 4) (v := .ref (aP 1)) (C := RX4) (T := TX4) (N := 2) hx hb hts hin4 hown hK hP 0 rfl rfl 0 (by decide) (hw_ hts 1 rfl) (fun _ h9 => h9) rfl dX4_keep_9 ?_
        refine lv_iload_n hx hb dX4_keep_12 rfl (lv_at hl 2 rfl) ?_
        refine lv_bipush (v := (84 : Int32)) hx hb dX4_keep_13 (by decide) ?_
        refine lv_imul hx hb dX4_keep_15 ?_
        refine lv_iload_n hx hb dX4_keep_16 rfl (lv_at hl 0 rfl) ?_
        refine lv_iadd hx hb dX4_keep_17 ?_
        refine lv_aload_n hx hb dX4_keep_18 rfl (lv_at hl 3 rfl) ?_
        refine lv_iload_n hx hb dX4_keep_19 rfl (lv_at hl 0 rfl) ?_
        refine va_calli (va_runSN (As := [.ref q, .int x3_2]) (rest := [.int ((p1 * (84 : Int32)) + x3_2), .ref (aP 1)]) ⟨hx, hb, hml, hown, hts⟩ (met_X6_at l dC dI cI cZ cS q n hn f H1.size x3_2) ⟨va_cnB 2 hts ggX4_keep_X6_at rfl rfl rfl (hN_12 hN) (hw_ hts 4 rfl) (by decide +kernel) ⟨Nat.le_of_ble_eq_true rfl, Nat.le_of_ble_eq_true rfl⟩, (hw_ hts 3 rfl), trivial⟩ (pS (wc := [(q, .inl (cI, n, .inl f))]) hK hP hD hN [3] rfl (by decide)) rfl rfl hl.1 rfl (lv_room (Nat.le_of_ble_eq_true rfl)) dX4_keep_20 ⟨Nat.zero_le _, Nat.zero_le _⟩) hS (fun q _ h => a0_in hS hA q h) (a0_in hS hA) (fun r3 u t H2 locs ht hvm hw hB hz1 hk1 hS => ?_)
        subst hw
        have hP := rdk hP hk1
        have hF := va_free (wc := [((aP 1), .inl (cI, 168, .inl (N_2 0)))]) hD hS hA [1] rfl
        refine va_callv (va_runSN (As := [.ref (aP 1), .int ((p1 * (84 : Int32)) + x3_2), .int (f6_at n f x3_2)]) (rest := []) ⟨hx, hb, hml, hown, hts⟩ (met_X6_put l dC dI cI cZ cS (aP 1) 168 (by decide) (N_2 0) H2.size ((p1 * (84 : Int32)) + x3_2) (f6_at n f x3_2)) ⟨va_cnB 3 hts ggX4_keep_X6_put rfl rfl rfl (hN_13 hN) (hw_ hts 4 rfl) (by decide +kernel) ⟨Nat.le_of_ble_eq_true rfl, Nat.le_of_ble_eq_true rfl⟩, (hw_ hts 6 rfl), trivial⟩ (pS (wc := [((aP 1), .inl (cI, 168, .inl (N_2 0)))]) hK hP hD hN [1] rfl (by decide)) rfl rfl hl.1 rfl (lv_room (Nat.le_of_ble_eq_true rfl)) dX4_keep_23 ⟨Nat.zero_le _, Nat.zero_le _⟩) hS (fun q _ h => hF q h) hF (fun  u4 t H3 locs ht hvm hw hB hz1 hk1 hS => ?_)
        try dsimp only at hw hB
        rw [ht] at hB
        subst hw
        have hP := wrk (w2 := wSn cI cZ aP (pset N_2 0 (f6_put 168 (N_2 0) ((p1 * (84 : Int32)) + x3_2) (f6_at n f x3_2))) ++ ([(q, .inl (cI, n, .inl f))])) hP hD [1] rfl (by decide) hk1 hB rfl rfl
        have hD := D_addr (w1 := wSn cI cZ aP (pset N_2 0 (f6_put 168 (N_2 0) ((p1 * (84 : Int32)) + x3_2) (f6_at n f x3_2))) ++ ([(q, .inl (cI, n, .inl f))])) hD rfl
        obtain ⟨Nb5, hNb5⟩ : ∃ z : Pic, z = (pset N_2 0 (f6_put 168 (N_2 0) ((p1 * (84 : Int32)) + x3_2) (f6_at n f x3_2))) := ⟨_, rfl⟩
        rw [← hNb5] at hP hD
        have hR := bd_n hNb5 hR
        refine lv_iinc (v := (x3_2 + 1)) (lv' := [(3, .int (x3_2 + 1)), (0, .ref (aP 0)), (1, .int p1), (2, .ref q)]) hx hb dX4_keep_26 hl (k := 0) rfl rfl (by decide) rfl (fun ls hl => ?_)
        refine lv_goto (tgt := 2) hx hb dX4_keep_29 (by decide) ?_
        exact ih (x3_2 + 1) Nb5 _ _ hfu hR hP hD hS ls (lv_sub hl [0, 1, 2, 3] rfl)
  refine LOOP2 (fun N_2 => (if p1 < 0 then N_2 else (if (nI 2) ≤ p1 then N_2 else (bd (pset N_2 1 (upd (N_2 1) (ix p1) (vp_nar .boolean (1 : Int32)))) (fun Nb8 => Nb8))))) (fun N_2 H1 locs hR hP hD hS ls hl => ?_) 84 (0 : Int32) N _ _ (by decide) hR hP hD hS ls (lv_sub hl [0, 1, 2, 3] rfl)
  try dsimp only at hR
  refine lv_iload_n hx hb dX4_keep_32 rfl (lv_at hl 1 rfl) ?_
  refine lv_if_lt (tgt := 52) hx hb dX4_keep_33 (by decide) (fun c_6 => ?_) (fun c_6 => ?_)
  · rw [if_pos c_6] at hR
    exact W.vret hx hb hr (fun t ht hW => ⟨⟨N_2, rfl, hR, P_at ht hP⟩, hS.F ht⟩) hS.2.2 dX4_keep_52
  · rw [if_neg c_6] at hR
    refine lv_iload_n hx hb dX4_keep_36 rfl (lv_at hl 1 rfl) ?_
    refine lv_aload_n hx hb dX4_keep_37 rfl (lv_at hl 0 rfl) ?_
    refine va_get (D := (dC, dI)) (ci := 4) (v := .ref (aP 2)) (C := RX4) (T := TX4) (N := 2) hx hb hts hin4 hown hK hP 0 rfl rfl 1 (by decide) (hw_ hts 2 rfl) (fun _ h9 => h9) rfl dX4_keep_38 ?_
    refine va_alen (v := nI 2) hx hb hK hP 2 1 rfl rfl rfl dX4_keep_41 ?_
    refine lv_icmp_ge (tgt := 52) hx hb dX4_keep_42 (by decide) (fun c_7 => ?_) (fun c_7 => ?_)
    · rw [if_pos c_7] at hR
      exact W.vret hx hb hr (fun t ht hW => ⟨⟨N_2, rfl, hR, P_at ht hP⟩, hS.F ht⟩) hS.2.2 dX4_keep_52
    · rw [if_neg c_7] at hR
      refine lv_aload_n hx hb dX4_keep_45 rfl (lv_at hl 0 rfl) ?_
      refine va_get (D := (dC, dI)) (ci := 4) (v := .ref (aP 2)) (C := RX4) (T := TX4) (N := 2) hx hb hts hin4 hown hK hP 0 rfl rfl 1 (by decide) (hw_ hts 2 rfl) (fun _ h9 => h9) rfl dX4_keep_46 ?_
      refine lv_iload_n hx hb dX4_keep_49 rfl (lv_at hl 1 rfl) ?_
      refine lv_iconst (v := (1 : Int32)) hx hb dX4_keep_50 (by decide) ?_
      refine va_zast (f := (N_2 1)) hx hb hK hP hD hS 2 1 rfl rfl (vpin_g (by assumption) (by assumption) (by decide)) dX4_keep_51 (fun H2 locs hP hD hS => ?_)
      have hP : va_P (dC, dI) vwCl (wSn cI cZ aP (pset N_2 1 (upd (N_2 1) (ix p1) (vp_nar .boolean (1 : Int32)))) ++ ([(q, .inl (cI, n, .inl f))])) H2 := hP
      have hD : va_D A (wSn cI cZ aP (pset N_2 1 (upd (N_2 1) (ix p1) (vp_nar .boolean (1 : Int32)))) ++ ([(q, .inl (cI, n, .inl f))])) := hD
      obtain ⟨Nb8, hNb8⟩ : ∃ z : Pic, z = (pset N_2 1 (upd (N_2 1) (ix p1) (vp_nar .boolean (1 : Int32)))) := ⟨_, rfl⟩
      rw [← hNb8] at hP hD
      have hR := bd_n hNb8 hR
      exact W.vret hx hb hr (fun t ht hW => ⟨⟨Nb8, rfl, hR, P_at ht hP⟩, hS.F ht⟩) hS.2.2 dX4_keep_52
abbrev rm_X4_copyTo : Room := { frames := 1, cells := 0, slots := 0, locals := 22 }
abbrev q_X4_copyTo (dC : Nat → ClassId) (dI : Nat → Nat → Nat) (cI cZ cS : ClassId) (aP : Nat → Nat) (q : Nat) (n : Nat) (hn : n < 2 ^ 31) (N : Pic) (res : (Nat → Int32)) (A : Nat → Prop) : Array Value → State → Outcome → State → Prop := va_Qv (fun (u : (Nat → Int32)) => u = res) (fun u t => va_P (dC, dI) vwCl (wSn cI cZ aP N ++ ([(q, .inl (cI, n, .inl u))])) t.heap) A
set_option maxHeartbeats 4000000 in
set_option maxRecDepth 100000 in
theorem met_X4_copyTo (l : Launch) (dC : Nat → ClassId) (dI : Nat → Nat → Nat) (cI cZ cS : ClassId) (aP : Nat → Nat) (q : Nat) (n : Nat) (hn : n < 2 ^ 31) (N : Pic) (f : (Nat → Int32)) (sz : Nat) (p1 : Int32) : Met l yX4_copyTo wsX4_copyTo rm_X4_copyTo (va_Pc [.ref (aP 0), .int p1, .ref q] (pW (dC, dI) (tyS cI cZ cS) (wSn cI cZ aP N ++ ([(q, .inl (cI, n, .inl f))])) sz)) (q_X4_copyTo dC dI cI cZ cS aP q n hn N (f4_copyTo n N f p1) (va_A (wSn cI cZ aP N ++ ([(q, .inl (cI, n, .inl f))])) sz)) 0 0 (va_A (wSn cI cZ aP N ++ ([(q, .inl (cI, n, .inl f))])) sz) := by
  refine Met.ofW (cc := cX4_copyTo) (maxL := 4) (ret := none) (by decide) rfl ?_
  intro p e s m args below meth c s₁ B hml hv
  obtain ⟨rfl, hsz, hP, hK, hD0, hN⟩ := hv
  have hx := B.exec
  have hb := B.bytes
  have hr := B.returns
  have hts := atoms_spec (ws := wsX4_copyTo) B.pre
  have hown : s.vm.findClass RX4 = some m.cls := findClass_of_methodNamed B.named
  have hlocks := B.notSynchronized
  subst hsz
  have hD := hD0.self (sz := s.heap.size)
  generalize hAe : va_A (wSn cI cZ aP N ++ ([(q, .inl (cI, n, .inl f))])) s.heap.size = A at hD ⊢
  have hA : ∀ q : Nat, s.heap.size ≤ q → A q := fun q h => by rw [← hAe]; exact Or.inr h
  have hS : va_S A s.heap s.heap [] := va_S.rf
  have hP : va_P (dC, dI) vwCl (wSn cI cZ aP N ++ ([(q, .inl (cI, n, .inl f))])) s.heap := hP
  generalize hR : f4_copyTo n N f p1 = res
  rw [f4_copyTo] at hR
  have hin4 : ∀ w ∈ wsX40, w ∈ wsX4_copyTo := by decide +kernel
  have hl := lv_entry ([.ref (aP 0), .int p1, .ref q]) (n := 4) (Nat.le_of_ble_eq_true rfl)
  rw [lg_entry_eq]
  generalize (lg_sl ([.ref (aP 0), .int p1, .ref q]) ++ List.replicate (4 - (lg_sl ([.ref (aP 0), .int p1, .ref q])).length) Slot.unset).toArray = ls at hl ⊢
  have hl : lv_has ls 4 [(0, .ref (aP 0)), (1, .int p1), (2, .ref q)] := hl
  refine lv_iconst (v := (0 : Int32)) hx hb dX4_copyTo_0 (by decide) ?_
  refine lv_istore_n (lv' := [(3, .int (0 : Int32)), (0, .ref (aP 0)), (1, .int p1), (2, .ref q)]) hx hb dX4_copyTo_1 rfl hl (by decide) rfl (fun ls hl => ?_)
  have LOOP2 : ∀ (k : (Nat → Int32) → (Nat → Int32)), (∀ (f_2 : (Nat → Int32)) (H1 : Heap) (locs : List Loc), k f_2 = res → va_P (dC, dI) vwCl (wSn cI cZ aP N ++ ([(q, .inl (cI, n, .inl f_2))])) H1 → va_D A (wSn cI cZ aP N ++ ([(q, .inl (cI, n, .inl f_2))])) → va_S A s.heap H1 locs → ∀ (ls : Array Slot), lv_has ls 4 [] → W p l e (headSpec wsX4_copyTo rm_X4_copyTo).room s m ([.ref (aP 0), .int p1, .ref q] : List Value).toArray below meth c H1 locs 0 0 (MQ below (q_X4_copyTo dC dI cI cZ cS aP q n hn N res A) ([.ref (aP 0), .int p1, .ref q] : List Value).toArray s 0 0 A) (F0 m 32 ls [])) → ∀ (nf : Nat) (x3_2 : Int32) (f_2 : (Nat → Int32)) (H1 : Heap) (locs : List Loc), ((84 : Int32)).toInt - (x3_2).toInt ≤ (nf : Int) → f4_copyTo_L2 n N p1 nf x3_2 f_2 k = res → va_P (dC, dI) vwCl (wSn cI cZ aP N ++ ([(q, .inl (cI, n, .inl f_2))])) H1 → va_D A (wSn cI cZ aP N ++ ([(q, .inl (cI, n, .inl f_2))])) → va_S A s.heap H1 locs → ∀ (ls : Array Slot), lv_has ls 4 [(3, .int x3_2), (0, .ref (aP 0)), (1, .int p1), (2, .ref q)] → W p l e (headSpec wsX4_copyTo rm_X4_copyTo).room s m ([.ref (aP 0), .int p1, .ref q] : List Value).toArray below meth c H1 locs 0 0 (MQ below (q_X4_copyTo dC dI cI cZ cS aP q n hn N res A) ([.ref (aP 0), .int p1, .ref q] : List Value).toArray s 0 0 A) (F0 m 2 ls []) := by
    intro k hk nf
    induction nf with
    | zero =>
      intro x3_2 f_2 H1 locs hfu hR hP hD hS ls hl
      rw [f4_copyTo_L2] at hR
      refine lv_iload_n hx hb dX4_copyTo_2 rfl (lv_at hl 0 rfl) ?_
      refine lv_bipush (v := (84 : Int32)) hx hb dX4_copyTo_3 (by decide) ?_
      refine lv_icmp_ge (tgt := 32) hx hb dX4_copyTo_5 (by decide) (fun c_1 => ?_) (fun c_1 => ?_)
      · skip
        exact hk f_2 _ _  hR hP hD hS ls (lv_sub hl [] rfl)
      · exact (fuel0 hfu c_1).elim
    | succ nf ih =>
      intro x3_2 f_2 H1 locs hfu hR hP hD hS ls hl
      rw [f4_copyTo_L2] at hR
      refine lv_iload_n hx hb dX4_copyTo_2 rfl (lv_at hl 0 rfl) ?_
      refine lv_bipush (v := (84 : Int32)) hx hb dX4_copyTo_3 (by decide) ?_
      refine lv_icmp_ge (tgt := 32) hx hb dX4_copyTo_5 (by decide) (fun c_2 => ?_) (fun c_2 => ?_)
      · rw [if_pos c_2] at hR
        exact hk f_2 _ _  hR hP hD hS ls (lv_sub hl [] rfl)
      · rw [if_neg c_2] at hR
        have hfu := fuelS hfu c_2
        refine lv_aload_n hx hb dX4_copyTo_8 rfl (lv_at hl 3 rfl) ?_
        refine lv_iload_n hx hb dX4_copyTo_9 rfl (lv_at hl 0 rfl) ?_
        refine lv_aload_n hx hb dX4_copyTo_10 rfl (lv_at hl 1 rfl) ?_
        refine va_get (D := (dC, dI)) (ci := 4) (v := .ref (aP 1)) (C := RX4) (T := TX4) (N := 2) hx hb hts hin4 hown hK hP 0 rfl rfl 0 (by decide) (hw_ hts 1 rfl) (fun _ h9 => h9) rfl dX4_copyTo_11 ?_
        refine lv_iload_n hx hb dX4_copyTo_14 rfl (lv_at hl 2 rfl) ?_
        refine lv_bipush (v := (84 : Int32)) hx hb dX4_copyTo_15 (by decide) ?_
        refine lv_imul hx hb dX4_copyTo_17 ?_
        refine lv_iload_n hx hb dX4_copyTo_18 rfl (lv_at hl 0 rfl) ?_
        refine lv_iadd hx hb dX4_copyTo_19 ?_
        refine va_calli (va_runSN (As := [.ref (aP 1), .int ((p1 * (84 : Int32)) + x3_2)]) (rest := [.int x3_2, .ref q]) ⟨hx, hb, hml, hown, hts⟩ (met_X6_at l dC dI cI cZ cS (aP 1) 168 (by decide) (N 0) H1.size ((p1 * (84 : Int32)) + x3_2)) ⟨va_cnB 2 hts ggX4_copyTo_X6_at rfl rfl rfl (hN_12 hN) (hw_ hts 3 rfl) (by decide +kernel) ⟨Nat.le_of_ble_eq_true rfl, Nat.le_of_ble_eq_true rfl⟩, (hw_ hts 2 rfl), trivial⟩ (pS (wc := [((aP 1), .inl (cI, 168, .inl (N 0)))]) hK hP hD hN [1] rfl (by decide)) rfl rfl hl.1 rfl (lv_room (Nat.le_of_ble_eq_true rfl)) dX4_copyTo_20 ⟨Nat.zero_le _, Nat.zero_le _⟩) hS (fun q _ h => a0_in hS hA q h) (a0_in hS hA) (fun r3 u t H2 locs ht hvm hw hB hz1 hk1 hS => ?_)
        subst hw
        have hP := rdk hP hk1
        have hF := va_free (wc := [(q, .inl (cI, n, .inl f_2))]) hD hS hA [3] rfl
        refine va_callv (va_runSN (As := [.ref q, .int x3_2, .int (f6_at 168 (N 0) ((p1 * (84 : Int32)) + x3_2))]) (rest := []) ⟨hx, hb, hml, hown, hts⟩ (met_X6_put l dC dI cI cZ cS q n hn f_2 H2.size x3_2 (f6_at 168 (N 0) ((p1 * (84 : Int32)) + x3_2))) ⟨va_cnB 3 hts ggX4_copyTo_X6_put rfl rfl rfl (hN_13 hN) (hw_ hts 3 rfl) (by decide +kernel) ⟨Nat.le_of_ble_eq_true rfl, Nat.le_of_ble_eq_true rfl⟩, (hw_ hts 5 rfl), trivial⟩ (pS (wc := [(q, .inl (cI, n, .inl f_2))]) hK hP hD hN [3] rfl (by decide)) rfl rfl hl.1 rfl (lv_room (Nat.le_of_ble_eq_true rfl)) dX4_copyTo_23 ⟨Nat.zero_le _, Nat.zero_le _⟩) hS (fun q _ h => hF q h) hF (fun  u4 t H3 locs ht hvm hw hB hz1 hk1 hS => ?_)
        try dsimp only at hw hB
        rw [ht] at hB
        subst hw
        have hP := wrk (w2 := wSn cI cZ aP N ++ ([(q, .inl (cI, n, .inl (f6_put n f_2 x3_2 (f6_at 168 (N 0) ((p1 * (84 : Int32)) + x3_2)))))])) hP hD [3] rfl (by decide) hk1 hB rfl rfl
        have hD := D_addr (w1 := wSn cI cZ aP N ++ ([(q, .inl (cI, n, .inl (f6_put n f_2 x3_2 (f6_at 168 (N 0) ((p1 * (84 : Int32)) + x3_2)))))])) hD rfl
        obtain ⟨fb5, hfb5⟩ : ∃ z : (Nat → Int32), z = (f6_put n f_2 x3_2 (f6_at 168 (N 0) ((p1 * (84 : Int32)) + x3_2))) := ⟨_, rfl⟩
        rw [← hfb5] at hP hD
        have hR := bd_n hfb5 hR
        refine lv_iinc (v := (x3_2 + 1)) (lv' := [(3, .int (x3_2 + 1)), (0, .ref (aP 0)), (1, .int p1), (2, .ref q)]) hx hb dX4_copyTo_26 hl (k := 0) rfl rfl (by decide) rfl (fun ls hl => ?_)
        refine lv_goto (tgt := 2) hx hb dX4_copyTo_29 (by decide) ?_
        exact ih (x3_2 + 1) fb5 _ _ hfu hR hP hD hS ls (lv_sub hl [0, 1, 2, 3] rfl)
  refine LOOP2 (fun f_2 => f_2) (fun f_2 H1 locs hR hP hD hS ls hl => ?_) 84 (0 : Int32) f _ _ (by decide) hR hP hD hS ls (lv_sub hl [0, 1, 2, 3] rfl)
  try dsimp only at hR
  exact W.vret hx hb hr (fun t ht hW => ⟨⟨f_2, rfl, hR, P_at ht hP⟩, hS.F ht⟩) hS.2.2 dX4_copyTo_32
abbrev rm_X4_isTaken : Room := { frames := 0, cells := 0, slots := 0, locals := 0 }
abbrev q_X4_isTaken (dC : Nat → ClassId) (dI : Nat → Nat → Nat) (cI cZ cS : ClassId) (aP : Nat → Nat)  (res : Int32) (A : Nat → Prop) : Array Value → State → Outcome → State → Prop := va_Qi (fun (r : Int32) (u : Unit) => r = res ∧ narrow .boolean (.int r) = .int r) (fun _ _ => True) A
set_option maxHeartbeats 4000000 in
set_option maxRecDepth 100000 in
theorem met_X4_isTaken (l : Launch) (dC : Nat → ClassId) (dI : Nat → Nat → Nat) (cI cZ cS : ClassId) (aP : Nat → Nat) (N : Pic) (sz : Nat) (p1 : Int32) : Met l yX4_isTaken wsX4_isTaken rm_X4_isTaken (va_Pc [.ref (aP 0), .int p1] (pW (dC, dI) (tyS cI cZ cS) (wSn cI cZ aP N) sz)) (q_X4_isTaken dC dI cI cZ cS aP (f4_isTaken N p1) (a0 sz)) 0 0 (a0 sz) := by
  refine Met.ofW (cc := cX4_isTaken) (maxL := 2) (ret := (some .boolean)) (by decide) rfl ?_
  intro p e s m args below meth c s₁ B hml hv
  obtain ⟨rfl, hsz, hP, hK, hD0, hN⟩ := hv
  have hx := B.exec
  have hb := B.bytes
  have hr := B.returns
  have hts := atoms_spec (ws := wsX4_isTaken) B.pre
  have hown : s.vm.findClass RX4 = some m.cls := findClass_of_methodNamed B.named
  have hlocks := B.notSynchronized
  subst hsz
  have hD := hD0
  have hA : ∀ q : Nat, s.heap.size ≤ q → a0 s.heap.size q := fun q h => Or.inr h
  have hS : va_S (a0 s.heap.size) s.heap s.heap [] := va_S.rf
  have hP : va_P (dC, dI) vwCl (wSn cI cZ aP N) s.heap := hP
  generalize hR : f4_isTaken N p1 = res
  rw [f4_isTaken] at hR
  have hin4 : ∀ w ∈ wsX40, w ∈ wsX4_isTaken := by decide +kernel
  have hl := lv_entry ([.ref (aP 0), .int p1]) (n := 2) (Nat.le_of_ble_eq_true rfl)
  rw [lg_entry_eq]
  generalize (lg_sl ([.ref (aP 0), .int p1]) ++ List.replicate (2 - (lg_sl ([.ref (aP 0), .int p1])).length) Slot.unset).toArray = ls at hl ⊢
  have hl : lv_has ls 2 [(0, .ref (aP 0)), (1, .int p1)] := hl
  refine lv_iload_n hx hb dX4_isTaken_0 rfl (lv_at hl 1 rfl) ?_
  refine lv_if_lt (tgt := 26) hx hb dX4_isTaken_1 (by decide) (fun c_1 => ?_) (fun c_1 => ?_)
  · rw [if_pos c_1] at hR
    refine lv_iconst (v := (0 : Int32)) hx hb dX4_isTaken_26 (by decide) ?_
    exact W.zret (v := (0 : Int32)) (ty := .boolean) hx hb hr rfl (fun t ht hW => ⟨⟨(0 : Int32), (), rfl, ⟨hR, rfl⟩, trivial⟩, hS.F ht⟩) hS.2.2 dX4_isTaken_27
  · rw [if_neg c_1] at hR
    refine lv_iload_n hx hb dX4_isTaken_4 rfl (lv_at hl 1 rfl) ?_
    refine lv_aload_n hx hb dX4_isTaken_5 rfl (lv_at hl 0 rfl) ?_
    refine va_get (D := (dC, dI)) (ci := 4) (v := .ref (aP 2)) (C := RX4) (T := TX4) (N := 2) hx hb hts hin4 hown hK hP 0 rfl rfl 1 (by decide) (hw_ hts 1 rfl) (fun _ h9 => h9) rfl dX4_isTaken_6 ?_
    refine va_alen (v := nI 2) hx hb hK hP 2 1 rfl rfl rfl dX4_isTaken_9 ?_
    refine lv_icmp_ge (tgt := 26) hx hb dX4_isTaken_10 (by decide) (fun c_2 => ?_) (fun c_2 => ?_)
    · rw [if_pos c_2] at hR
      refine lv_iconst (v := (0 : Int32)) hx hb dX4_isTaken_26 (by decide) ?_
      exact W.zret (v := (0 : Int32)) (ty := .boolean) hx hb hr rfl (fun t ht hW => ⟨⟨(0 : Int32), (), rfl, ⟨hR, rfl⟩, trivial⟩, hS.F ht⟩) hS.2.2 dX4_isTaken_27
    · rw [if_neg c_2] at hR
      refine lv_aload_n hx hb dX4_isTaken_13 rfl (lv_at hl 0 rfl) ?_
      refine va_get (D := (dC, dI)) (ci := 4) (v := .ref (aP 2)) (C := RX4) (T := TX4) (N := 2) hx hb hts hin4 hown hK hP 0 rfl rfl 1 (by decide) (hw_ hts 1 rfl) (fun _ h9 => h9) rfl dX4_isTaken_14 ?_
      refine lv_iload_n hx hb dX4_isTaken_17 rfl (lv_at hl 1 rfl) ?_
      refine va_zald (f := (N 1)) hx hb hK hP 2 1 rfl rfl (vpin_g (by assumption) (by assumption) (by decide)) dX4_isTaken_18 ?_
      refine lv_if_eq (tgt := 26) hx hb dX4_isTaken_19 (by decide) (fun c_3 => ?_) (fun c_3 => ?_)
      · rw [if_pos c_3] at hR
        refine lv_iconst (v := (0 : Int32)) hx hb dX4_isTaken_26 (by decide) ?_
        exact W.zret (v := (0 : Int32)) (ty := .boolean) hx hb hr rfl (fun t ht hW => ⟨⟨(0 : Int32), (), rfl, ⟨hR, rfl⟩, trivial⟩, hS.F ht⟩) hS.2.2 dX4_isTaken_27
      · rw [if_neg c_3] at hR
        refine lv_iconst (v := (1 : Int32)) hx hb dX4_isTaken_22 (by decide) ?_
        refine lv_goto (tgt := 27) hx hb dX4_isTaken_23 (by decide) ?_
        exact W.zret (v := (1 : Int32)) (ty := .boolean) hx hb hr rfl (fun t ht hW => ⟨⟨(1 : Int32), (), rfl, ⟨hR, rfl⟩, trivial⟩, hS.F ht⟩) hS.2.2 dX4_isTaken_27
abbrev rm_X4_takenCount : Room := { frames := 1, cells := 0, slots := 0, locals := 21 }
abbrev q_X4_takenCount (dC : Nat → ClassId) (dI : Nat → Nat → Nat) (cI cZ cS : ClassId) (aP : Nat → Nat)  (res : Int32) (A : Nat → Prop) : Array Value → State → Outcome → State → Prop := va_Qi (fun (r : Int32) (u : Unit) => r = res) (fun _ _ => True) A
set_option maxHeartbeats 4000000 in
set_option maxRecDepth 100000 in
theorem met_X4_takenCount (l : Launch) (dC : Nat → ClassId) (dI : Nat → Nat → Nat) (cI cZ cS : ClassId) (aP : Nat → Nat) (N : Pic) (sz : Nat)  : Met l yX4_takenCount wsX4_takenCount rm_X4_takenCount (va_Pc [.ref (aP 0)] (pW (dC, dI) (tyS cI cZ cS) (wSn cI cZ aP N) sz)) (q_X4_takenCount dC dI cI cZ cS aP (f4_takenCount N) (a0 sz)) 0 0 (a0 sz) := by
  refine Met.ofW (cc := cX4_takenCount) (maxL := 3) (ret := (some .int)) (by decide) rfl ?_
  intro p e s m args below meth c s₁ B hml hv
  obtain ⟨rfl, hsz, hP, hK, hD0, hN⟩ := hv
  have hx := B.exec
  have hb := B.bytes
  have hr := B.returns
  have hts := atoms_spec (ws := wsX4_takenCount) B.pre
  have hown : s.vm.findClass RX4 = some m.cls := findClass_of_methodNamed B.named
  have hlocks := B.notSynchronized
  subst hsz
  have hD := hD0
  have hA : ∀ q : Nat, s.heap.size ≤ q → a0 s.heap.size q := fun q h => Or.inr h
  have hS : va_S (a0 s.heap.size) s.heap s.heap [] := va_S.rf
  have hP : va_P (dC, dI) vwCl (wSn cI cZ aP N) s.heap := hP
  generalize hR : f4_takenCount N = res
  rw [f4_takenCount] at hR
  have hl := lv_entry ([.ref (aP 0)]) (n := 3) (Nat.le_of_ble_eq_true rfl)
  rw [lg_entry_eq]
  generalize (lg_sl ([.ref (aP 0)]) ++ List.replicate (3 - (lg_sl ([.ref (aP 0)])).length) Slot.unset).toArray = ls at hl ⊢
  have hl : lv_has ls 3 [(0, .ref (aP 0))] := hl
  refine lv_iconst (v := (0 : Int32)) hx hb dX4_takenCount_0 (by decide) ?_
  refine lv_istore_n (lv' := [(1, .int (0 : Int32)), (0, .ref (aP 0))]) hx hb dX4_takenCount_1 rfl hl (by decide) rfl (fun ls hl => ?_)
  refine lv_iconst (v := (0 : Int32)) hx hb dX4_takenCount_2 (by decide) ?_
  refine lv_istore_n (lv' := [(2, .int (0 : Int32)), (1, .int (0 : Int32)), (0, .ref (aP 0))]) hx hb dX4_takenCount_3 rfl hl (by decide) rfl (fun ls hl => ?_)
  have LOOP4 : ∀ (k : Int32 → Int32), (∀ (x1_4 : Int32) (H1 : Heap) (locs : List Loc), k x1_4 = res → va_P (dC, dI) vwCl (wSn cI cZ aP N) H1 → va_D (fun _ => True) (wSn cI cZ aP N) → va_S (a0 s.heap.size) s.heap H1 locs → ∀ (ls : Array Slot), lv_has ls 3 [(1, .int x1_4)] → W p l e (headSpec wsX4_takenCount rm_X4_takenCount).room s m ([.ref (aP 0)] : List Value).toArray below meth c H1 locs 0 0 (MQ below (q_X4_takenCount dC dI cI cZ cS aP res (a0 s.heap.size)) ([.ref (aP 0)] : List Value).toArray s 0 0 (a0 s.heap.size)) (F0 m 26 ls [])) → ∀ (nf : Nat) (x1_4 : Int32) (x2_4 : Int32) (H1 : Heap) (locs : List Loc), ((2 : Int32)).toInt - (x2_4).toInt ≤ (nf : Int) → f4_takenCount_L4 N nf x1_4 x2_4 k = res → va_P (dC, dI) vwCl (wSn cI cZ aP N) H1 → va_D (fun _ => True) (wSn cI cZ aP N) → va_S (a0 s.heap.size) s.heap H1 locs → ∀ (ls : Array Slot), lv_has ls 3 [(1, .int x1_4), (2, .int x2_4), (0, .ref (aP 0))] → W p l e (headSpec wsX4_takenCount rm_X4_takenCount).room s m ([.ref (aP 0)] : List Value).toArray below meth c H1 locs 0 0 (MQ below (q_X4_takenCount dC dI cI cZ cS aP res (a0 s.heap.size)) ([.ref (aP 0)] : List Value).toArray s 0 0 (a0 s.heap.size)) (F0 m 4 ls []) := by
    intro k hk nf
    induction nf with
    | zero =>
      intro x1_4 x2_4 H1 locs hfu hR hP hD hS ls hl
      rw [f4_takenCount_L4] at hR
      refine lv_iload_n hx hb dX4_takenCount_4 rfl (lv_at hl 1 rfl) ?_
      refine lv_iconst (v := (2 : Int32)) hx hb dX4_takenCount_5 (by decide) ?_
      refine lv_icmp_ge (tgt := 26) hx hb dX4_takenCount_6 (by decide) (fun c_1 => ?_) (fun c_1 => ?_)
      · skip
        exact hk x1_4 _ _  hR hP hD hS ls (lv_sub hl [0] rfl)
      · exact (fuel0 hfu c_1).elim
    | succ nf ih =>
      intro x1_4 x2_4 H1 locs hfu hR hP hD hS ls hl
      rw [f4_takenCount_L4] at hR
      refine lv_iload_n hx hb dX4_takenCount_4 rfl (lv_at hl 1 rfl) ?_
      refine lv_iconst (v := (2 : Int32)) hx hb dX4_takenCount_5 (by decide) ?_
      refine lv_icmp_ge (tgt := 26) hx hb dX4_takenCount_6 (by decide) (fun c_2 => ?_) (fun c_2 => ?_)
      · rw [if_pos c_2] at hR
        exact hk x1_4 _ _  hR hP hD hS ls (lv_sub hl [0] rfl)
      · rw [if_neg c_2] at hR
        have hfu := fuelS hfu c_2
        refine lv_aload_n hx hb dX4_takenCount_9 rfl (lv_at hl 2 rfl) ?_
        refine lv_iload_n hx hb dX4_takenCount_10 rfl (lv_at hl 1 rfl) ?_
        refine va_calli (va_runV (As := [.int x2_4]) (rest := []) ⟨hx, hb, hml, hown, hts⟩ (met_X4_isTaken l dC dI cI cZ cS aP N H1.size x2_4) (cwV 1 hts gX4_takenCount_X4_isTaken rfl rfl rfl (by decide +kernel) ⟨Nat.le_of_ble_eq_true rfl, Nat.le_of_ble_eq_true rfl⟩) (pV (wc := wSn cI cZ aP N) (ci := 4) (q0 := 0) hK hP hD hN [0, 1, 2] rfl (by decide) rfl rfl) rfl rfl hl.1 rfl (lv_room (Nat.le_of_ble_eq_true rfl)) dX4_takenCount_11 ⟨Nat.zero_le _, Nat.zero_le _⟩) hS (fun q _ h => a0_in hS hA q h) (a0_in hS hA) (fun r3 u t H2 locs ht hvm hw hB hz1 hk1 hS => ?_)
        obtain ⟨hw, nb4⟩ := hw
        have hR := bd_n hw hR
        have hP := rdk hP hk1
        refine lv_if_eq (tgt := 20) hx hb dX4_takenCount_14 (by decide) (fun c_5 => ?_) (fun c_5 => ?_)
        · rw [if_pos c_5] at hR
          refine lv_iinc (v := (x2_4 + 1)) (lv' := [(2, .int (x2_4 + 1)), (1, .int x1_4), (0, .ref (aP 0))]) hx hb dX4_takenCount_20 hl (k := 1) rfl rfl (by decide) rfl (fun ls hl => ?_)
          refine lv_goto (tgt := 4) hx hb dX4_takenCount_23 (by decide) ?_
          exact ih x1_4 (x2_4 + 1) _ _ hfu hR hP hD hS ls (lv_sub hl [1, 0, 2] rfl)
        · rw [if_neg c_5] at hR
          refine lv_iinc (v := (x1_4 + 1)) (lv' := [(1, .int (x1_4 + 1)), (2, .int x2_4), (0, .ref (aP 0))]) hx hb dX4_takenCount_17 hl (k := 0) rfl rfl (by decide) rfl (fun ls hl => ?_)
          refine lv_iinc (v := (x2_4 + 1)) (lv' := [(2, .int (x2_4 + 1)), (1, .int (x1_4 + 1)), (0, .ref (aP 0))]) hx hb dX4_takenCount_20 hl (k := 1) rfl rfl (by decide) rfl (fun ls hl => ?_)
          refine lv_goto (tgt := 4) hx hb dX4_takenCount_23 (by decide) ?_
          exact ih (x1_4 + 1) (x2_4 + 1) _ _ hfu hR hP hD hS ls (lv_sub hl [1, 0, 2] rfl)
  refine LOOP4 (fun x1_4 => x1_4) (fun x1_4 H1 locs hR hP hD hS ls hl => ?_) 2 (0 : Int32) (0 : Int32) _ _ (by decide) hR hP hD hS ls (lv_sub hl [1, 0, 2] rfl)
  try dsimp only at hR
  refine lv_iload_n hx hb dX4_takenCount_26 rfl (lv_at hl 0 rfl) ?_
  exact W.iret (v := x1_4) hx hb hr (fun t ht hW => ⟨⟨x1_4, (), rfl, hR, trivial⟩, hS.F ht⟩) hS.2.2 dX4_takenCount_27
