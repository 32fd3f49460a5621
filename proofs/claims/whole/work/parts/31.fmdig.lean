abbrev rm_X6_bitsOfShare : Room := { frames := 0, cells := 0, slots := 0, locals := 0 }
abbrev q_X6_bitsOfShare (dC : Nat → ClassId) (dI : Nat → Nat → Nat) (cI cZ cS : ClassId)   (res : Int64) (A : Nat → Prop) : Array Value → State → Outcome → State → Prop := va_Ql (fun (r : Int64) (u : Unit) => r = res) (fun _ _ => True) A
set_option maxHeartbeats 4000000 in
set_option maxRecDepth 100000 in
theorem met_X6_bitsOfShare (l : Launch) (dC : Nat → ClassId) (dI : Nat → Nat → Nat) (cI cZ cS : ClassId)  (sz : Nat) (p1 : UInt64) (res : Int64) (hR : f6_bitsOfShare p1 = some res) : Met l yX6_bitsOfShare wsX6_bitsOfShare rm_X6_bitsOfShare (va_Pc [.double p1] (pW (dC, dI) (tyS cI cZ cS) ([]) sz)) (q_X6_bitsOfShare dC dI cI cZ cS res (a0 sz)) 0 0 (a0 sz) := by
  refine Met.ofW (cc := cX6_bitsOfShare) (maxL := 7) (ret := (some .long)) (by decide) rfl ?_
  intro p e s m args below meth c s₁ B hml hv
  obtain ⟨rfl, hsz, hP, hK, hD0, hN⟩ := hv
  have hx := B.exec
  have hb := B.bytes
  have hr := B.returns
  have hts := atoms_spec (ws := wsX6_bitsOfShare) B.pre
  have hown : s.vm.findClass RX6 = some m.cls := findClass_of_methodNamed B.named
  have hlocks := B.notSynchronized
  subst hsz
  have hD := hD0
  have hA : ∀ q : Nat, s.heap.size ≤ q → a0 s.heap.size q := fun q h => Or.inr h
  have hS : va_S (a0 s.heap.size) s.heap s.heap [] := va_S.rf
  have hP : va_P (dC, dI) vwCl ([]) s.heap := hP
  rw [f6_bitsOfShare] at hR
  have hl := lv_entry ([.double p1]) (n := 7) (Nat.le_of_ble_eq_true rfl)
  rw [lg_entry_eq]
  generalize (lg_sl ([.double p1]) ++ List.replicate (7 - (lg_sl ([.double p1])).length) Slot.unset).toArray = ls at hl ⊢
  have hl : lv_has ls 7 [(0, .double p1)] := hl
  refine lv_dload_n hx hb dX6_bitsOfShare_0 rfl (lv_at hl 0 rfl) ?_
  refine lv_dconst0 hx hb dX6_bitsOfShare_1 ?_
  refine lv_dcmp hx hb dX6_bitsOfShare_2 ?_
  refine lv_if_gt (tgt := 8) hx hb dX6_bitsOfShare_3 (by decide) (fun c_1 => ?_) (fun c_1 => ?_)
  · rw [if_pos c_1] at hR
    refine lv_dload_n hx hb dX6_bitsOfShare_8 rfl (lv_at hl 0 rfl) ?_
    refine lv_dstore_n (lv' := [(2, .double p1), (0, .double p1)]) hx hb dX6_bitsOfShare_9 rfl hl (by decide) rfl (fun ls hl => ?_)
    refine lv_ldc2 (v := (1023 : Int64)) hx hb hown (hw_ hts 1 rfl) dX6_bitsOfShare_10 ?_
    refine lv_lstore (lv' := [(4, .long (1023 : Int64)), (2, .double p1), (0, .double p1)]) hx hb dX6_bitsOfShare_13 hl (by decide) rfl (fun ls hl => ?_)
    refine lv_iconst (v := (0 : Int32)) hx hb dX6_bitsOfShare_15 (by decide) ?_
    refine lv_istore (lv' := [(6, .int (0 : Int32)), (4, .long (1023 : Int64)), (2, .double p1), (0, .double p1)]) hx hb dX6_bitsOfShare_16 hl (by decide) rfl (fun ls hl => ?_)
    have LOOP18 : ∀ (k : UInt64 → Int64 → (Option (Int64))), (∀ (x2_18 : UInt64) (x4_18 : Int64) (H1 : Heap) (locs : List Loc), k x2_18 x4_18 = some res → va_P (dC, dI) vwCl ([]) H1 → va_D (fun _ => True) ([]) → va_S (a0 s.heap.size) s.heap H1 locs → ∀ (ls : Array Slot), lv_has ls 7 [(2, .double x2_18), (4, .long x4_18)] → W p l e (headSpec wsX6_bitsOfShare rm_X6_bitsOfShare).room s m ([.double p1] : List Value).toArray below meth c H1 locs 0 0 (MQ below (q_X6_bitsOfShare dC dI cI cZ cS res (a0 s.heap.size)) ([.double p1] : List Value).toArray s 0 0 (a0 s.heap.size)) (F0 m 49 ls [])) → ∀ (nf : Nat) (x2_18 : UInt64) (x4_18 : Int64) (x6_18 : Int32) (H1 : Heap) (locs : List Loc), ((60 : Int32)).toInt - (x6_18).toInt ≤ (nf : Int) → f6_bitsOfShare_L18  nf x2_18 x4_18 x6_18 k = some res → va_P (dC, dI) vwCl ([]) H1 → va_D (fun _ => True) ([]) → va_S (a0 s.heap.size) s.heap H1 locs → ∀ (ls : Array Slot), lv_has ls 7 [(2, .double x2_18), (4, .long x4_18), (6, .int x6_18)] → W p l e (headSpec wsX6_bitsOfShare rm_X6_bitsOfShare).room s m ([.double p1] : List Value).toArray below meth c H1 locs 0 0 (MQ below (q_X6_bitsOfShare dC dI cI cZ cS res (a0 s.heap.size)) ([.double p1] : List Value).toArray s 0 0 (a0 s.heap.size)) (F0 m 18 ls []) := by
      intro k hk nf
      induction nf with
      | zero =>
        intro x2_18 x4_18 x6_18 H1 locs hfu hR hP hD hS ls hl
        rw [f6_bitsOfShare_L18] at hR
        refine lv_iload hx hb dX6_bitsOfShare_18 (lv_at hl 2 rfl) ?_
        refine lv_bipush (v := (60 : Int32)) hx hb dX6_bitsOfShare_20 (by decide) ?_
        refine lv_icmp_ge (tgt := 49) hx hb dX6_bitsOfShare_22 (by decide) (fun c_2 => ?_) (fun c_2 => ?_)
        · skip
          exact hk x2_18 x4_18 _ _  hR hP hD hS ls (lv_sub hl [0, 1] rfl)
        · exact (fuel0 hfu c_2).elim
      | succ nf ih =>
        intro x2_18 x4_18 x6_18 H1 locs hfu hR hP hD hS ls hl
        rw [f6_bitsOfShare_L18] at hR
        refine lv_iload hx hb dX6_bitsOfShare_18 (lv_at hl 2 rfl) ?_
        refine lv_bipush (v := (60 : Int32)) hx hb dX6_bitsOfShare_20 (by decide) ?_
        refine lv_icmp_ge (tgt := 49) hx hb dX6_bitsOfShare_22 (by decide) (fun c_3 => ?_) (fun c_3 => ?_)
        · rw [if_pos c_3] at hR
          exact hk x2_18 x4_18 _ _  hR hP hD hS ls (lv_sub hl [0, 1] rfl)
        · rw [if_neg c_3] at hR
          have hfu := fuelS hfu c_3
          refine lv_dload_n hx hb dX6_bitsOfShare_25 rfl (lv_at hl 0 rfl) ?_
          refine lv_dconst1 hx hb dX6_bitsOfShare_26 ?_
          refine lv_dcmp hx hb dX6_bitsOfShare_27 ?_
          refine lv_if_ge (tgt := 49) hx hb dX6_bitsOfShare_28 (by decide) (fun c_4 => ?_) (fun c_4 => ?_)
          · rw [if_pos c_4] at hR
            exact hk x2_18 x4_18 _ _  hR hP hD hS ls (lv_sub hl [0, 1] rfl)
          · rw [if_neg c_4] at hR
            refine lv_dload_n hx hb dX6_bitsOfShare_31 rfl (lv_at hl 0 rfl) ?_
            refine lv_ldc2d (v := (4611686018427387904 : UInt64)) hx hb hown (hw_ hts 2 rfl) dX6_bitsOfShare_32 ?_
            obtain ⟨hne5, hR⟩ := ckn_some hR
            refine lv_dmul hx hb dX6_bitsOfShare_35 hne5 ?_
            refine lv_topd (fun v6 hv6 => ?_)
            have hR := bd_n hv6 hR
            refine lv_dstore_n (lv' := [(2, .double v6), (4, .long x4_18), (6, .int x6_18)]) hx hb dX6_bitsOfShare_36 rfl hl (by decide) rfl (fun ls hl => ?_)
            refine lv_lload hx hb dX6_bitsOfShare_37 (lv_at hl 1 rfl) ?_
            refine lv_lconst (v := (1 : Int64)) hx hb dX6_bitsOfShare_39 rfl ?_
            refine lv_lsub hx hb dX6_bitsOfShare_40 ?_
            refine lv_topl (fun v7 hv7 => ?_)
            have hR := bd_n hv7 hR
            refine lv_lstore (lv' := [(4, .long v7), (2, .double v6), (6, .int x6_18)]) hx hb dX6_bitsOfShare_41 hl (by decide) rfl (fun ls hl => ?_)
            refine lv_iinc (v := (x6_18 + 1)) (lv' := [(6, .int (x6_18 + 1)), (4, .long v7), (2, .double v6)]) hx hb dX6_bitsOfShare_43 hl (k := 2) rfl rfl (by decide) rfl (fun ls hl => ?_)
            refine lv_goto (tgt := 18) hx hb dX6_bitsOfShare_46 (by decide) ?_
            exact ih v6 v7 (x6_18 + 1) _ _ hfu hR hP hD hS ls (lv_sub hl [2, 1, 0] rfl)
    refine LOOP18 (fun x2_18 x4_18 => (ckn (FP.dsub x2_18 FP.dconst1) (ckn (FP.dmul (FP.dsub x2_18 FP.dconst1) (4841369599423283200 : UInt64)) (some ((x4_18 <<< ((52 : Int32).toInt64 &&& 63)) ||| (FP.d2l (FP.dmul (FP.dsub x2_18 FP.dconst1) (4841369599423283200 : UInt64)))))))) (fun x2_18 x4_18 H1 locs hR hP hD hS ls hl => ?_) 60 p1 (1023 : Int64) (0 : Int32) _ _ (by decide) hR hP hD hS ls (lv_sub hl [2, 1, 0] rfl)
    try dsimp only at hR
    refine lv_lload hx hb dX6_bitsOfShare_49 (lv_at hl 1 rfl) ?_
    refine lv_bipush (v := (52 : Int32)) hx hb dX6_bitsOfShare_51 (by decide) ?_
    refine lv_lshl (v := (x4_18 <<< ((52 : Int32).toInt64 &&& 63))) hx hb dX6_bitsOfShare_53 rfl ?_
    refine lv_dload_n hx hb dX6_bitsOfShare_54 rfl (lv_at hl 0 rfl) ?_
    refine lv_dconst1 hx hb dX6_bitsOfShare_55 ?_
    obtain ⟨hne8, hR⟩ := ckn_some hR
    refine lv_dsub hx hb dX6_bitsOfShare_56 hne8 ?_
    refine lv_ldc2d (v := (4841369599423283200 : UInt64)) hx hb hown (hw_ hts 3 rfl) dX6_bitsOfShare_57 ?_
    obtain ⟨hne9, hR⟩ := ckn_some hR
    refine lv_dmul hx hb dX6_bitsOfShare_60 hne9 ?_
    refine lv_d2l hx hb dX6_bitsOfShare_61 ?_
    refine lv_lor hx hb dX6_bitsOfShare_62 ?_
    exact W.lret (v := ((x4_18 <<< ((52 : Int32).toInt64 &&& 63)) ||| (FP.d2l (FP.dmul (FP.dsub x2_18 FP.dconst1) (4841369599423283200 : UInt64))))) hx hb hr (fun t ht hW => ⟨⟨((x4_18 <<< ((52 : Int32).toInt64 &&& 63)) ||| (FP.d2l (FP.dmul (FP.dsub x2_18 FP.dconst1) (4841369599423283200 : UInt64)))), (), rfl, Option.some.inj hR, trivial⟩, hS.F ht⟩) hS.2.2 dX6_bitsOfShare_63
  · rw [if_neg c_1] at hR
    refine lv_lconst (v := (0 : Int64)) hx hb dX6_bitsOfShare_6 rfl ?_
    exact W.lret (v := (0 : Int64)) hx hb hr (fun t ht hW => ⟨⟨(0 : Int64), (), rfl, Option.some.inj hR, trivial⟩, hS.F ht⟩) hS.2.2 dX6_bitsOfShare_7
abbrev rm_X6_usedShare : Room := { frames := 5, cells := 0, slots := 0, locals := 124 }
abbrev q_X6_usedShare (dC : Nat → ClassId) (dI : Nat → Nat → Nat) (cI cZ cS : ClassId) (aF aN aT aL aO aH : Nat → Nat) (ah : Nat → Nat → Nat) (aP aX : Nat → Nat) (S : Pic) (res : UInt64 × Pic) (A : Nat → Prop) : Array Value → State → Outcome → State → Prop := va_Qd (fun (r : UInt64) (u : Pic) => (r, u) = res) (fun u t => va_P (dC, dI) vwCl (wFm aF aN aT aL aO aH aP aX ++ (wSt cI aN S ++ (wLo cI aL u))) t.heap) A
set_option maxHeartbeats 4000000 in
set_option maxRecDepth 100000 in
theorem met_X6_usedShare (l : Launch) (dC : Nat → ClassId) (dI : Nat → Nat → Nat) (cI cZ cS : ClassId) (aF aN aT aL aO aH : Nat → Nat) (ah : Nat → Nat → Nat) (aP aX : Nat → Nat) (S : Pic) (Y : Pic) (sz : Nat)  (res : UInt64 × Pic) (hR : f6_usedShare S Y = some res) : Met l yX6_usedShare wsX6_usedShare rm_X6_usedShare (va_Pc [.ref (aF 0)] (pW (dC, dI) (tyS cI cZ cS) (wFm aF aN aT aL aO aH aP aX ++ (wSt cI aN S ++ (wLo cI aL Y))) sz)) (q_X6_usedShare dC dI cI cZ cS aF aN aT aL aO aH ah aP aX S res (va_A (wFm aF aN aT aL aO aH aP aX ++ (wSt cI aN S ++ (wLo cI aL Y))) sz)) 0 0 (va_A (wFm aF aN aT aL aO aH aP aX ++ (wSt cI aN S ++ (wLo cI aL Y))) sz) := by
  refine Met.ofW (cc := cX6_usedShare) (maxL := 3) (ret := (some .double)) (by decide) rfl ?_
  intro p e s m args below meth c s₁ B hml hv
  obtain ⟨rfl, hsz, hP, hK, hD0, hN⟩ := hv
  have hx := B.exec
  have hb := B.bytes
  have hr := B.returns
  have hts := atoms_spec (ws := wsX6_usedShare) B.pre
  have hown : s.vm.findClass RX6 = some m.cls := findClass_of_methodNamed B.named
  have hlocks := B.notSynchronized
  subst hsz
  have hD := hD0.self (sz := s.heap.size)
  generalize hAe : va_A (wFm aF aN aT aL aO aH aP aX ++ (wSt cI aN S ++ (wLo cI aL Y))) s.heap.size = A at hD ⊢
  have hA : ∀ q : Nat, s.heap.size ≤ q → A q := fun q h => by rw [← hAe]; exact Or.inr h
  have hS : va_S A s.heap s.heap [] := va_S.rf
  have hP : va_P (dC, dI) vwCl (wFm aF aN aT aL aO aH aP aX ++ (wSt cI aN S ++ (wLo cI aL Y))) s.heap := hP
  rw [f6_usedShare] at hR
  have hin6 : ∀ w ∈ wsX60, w ∈ wsX6_usedShare := by decide +kernel
  have hl := lv_entry ([.ref (aF 0)]) (n := 3) (Nat.le_of_ble_eq_true rfl)
  rw [lg_entry_eq]
  generalize (lg_sl ([.ref (aF 0)]) ++ List.replicate (3 - (lg_sl ([.ref (aF 0)])).length) Slot.unset).toArray = ls at hl ⊢
  have hl : lv_has ls 3 [(0, .ref (aF 0))] := hl
  refine lv_aload_n hx hb dX6_usedShare_0 rfl (lv_at hl 0 rfl) ?_
  refine va_get (D := (dC, dI)) (ci := 6) (v := .ref (aN 0)) (C := RX6) (T := TX6) (N := 7) hx hb hts hin6 hown hK hP 0 rfl rfl 0 (by decide) (hw_ hts 1 rfl) (fun _ h9 => h9) rfl dX6_usedShare_1 ?_
  refine va_calli (va_runV (As := []) (rest := []) ⟨hx, hb, hml, hown, hts⟩ (met_X5_sourceCount l dC dI cI cZ cS aN S s.heap.size) (cwV 0 hts gX6_usedShare_X5_sourceCount rfl rfl rfl (by decide +kernel) ⟨Nat.le_of_ble_eq_true rfl, Nat.le_of_ble_eq_true rfl⟩) (pV (wc := wSt cI aN S) (ci := 5) (q0 := 1) hK hP hD hN [1, 2, 3, 4, 5, 6, 7, 8, 9, 10, 11] rfl (by decide) rfl rfl) rfl rfl hl.1 rfl (lv_room (Nat.le_of_ble_eq_true rfl)) dX6_usedShare_4 ⟨Nat.zero_le _, Nat.zero_le _⟩) hS (fun q _ h => a0_in hS hA q h) (a0_in hS hA) (fun r1 u t H1 locs ht hvm hw hB hz1 hk1 hS => ?_)
  have hR := bd_n hw hR
  have hP := rdk hP hk1
  refine lv_istore_n (lv' := [(1, .int r1), (0, .ref (aF 0))]) hx hb dX6_usedShare_7 rfl hl (by decide) rfl (fun ls hl => ?_)
  refine lv_iload_n hx hb dX6_usedShare_8 rfl (lv_at hl 0 rfl) ?_
  refine lv_if_gt (tgt := 14) hx hb dX6_usedShare_9 (by decide) (fun c_2 => ?_) (fun c_2 => ?_)
  · rw [if_pos c_2] at hR
    refine lv_iload_n hx hb dX6_usedShare_14 rfl (lv_at hl 0 rfl) ?_
    refine lv_aload_n hx hb dX6_usedShare_15 rfl (lv_at hl 1 rfl) ?_
    refine va_get (D := (dC, dI)) (ci := 6) (v := .ref (aL 0)) (C := RX6) (T := TX6) (N := 7) hx hb hts hin6 hown hK hP 0 rfl rfl 2 (by decide) (hw_ hts 2 rfl) (fun _ h9 => h9) rfl dX6_usedShare_16 ?_
    refine lv_aload_n hx hb dX6_usedShare_19 rfl (lv_at hl 1 rfl) ?_
    refine va_get (D := (dC, dI)) (ci := 6) (v := .ref (aN 0)) (C := RX6) (T := TX6) (N := 7) hx hb hts hin6 hown hK hP 0 rfl rfl 0 (by decide) (hw_ hts 1 rfl) (fun _ h9 => h9) rfl dX6_usedShare_20 ?_
    have hF := va_free (wc := wLo cI aL Y ++ (wSt cI aN S)) hD hS hA [12, 13, 14, 1, 2, 3, 4, 5, 6, 7, 8, 9, 10, 11] rfl
    refine va_calli (va_runV (As := [.ref (aN 0)]) (rest := [.int r1]) ⟨hx, hb, hml, hown, hts⟩ (met_X1_wastedOfAll l dC dI cI cZ cS aL aN Y S H1.size) (cwV 1 hts gX6_usedShare_X1_wastedOfAll rfl rfl rfl (by decide +kernel) ⟨Nat.le_of_ble_eq_true rfl, Nat.le_of_ble_eq_true rfl⟩) (pV (wc := wLo cI aL Y ++ (wSt cI aN S)) (ci := 1) (q0 := 12) hK hP hD hN [12, 13, 14, 1, 2, 3, 4, 5, 6, 7, 8, 9, 10, 11] rfl (by decide) rfl rfl) rfl rfl hl.1 rfl (lv_room (Nat.le_of_ble_eq_true rfl)) dX6_usedShare_23 ⟨Nat.zero_le _, Nat.zero_le _⟩) hS (fun q _ h => hF q h) hF (fun r3 u4 t H2 locs ht hvm hw hB hz1 hk1 hS => ?_)
    try dsimp only at hw hB
    rw [ht] at hB
    have hR := bd2_n hw hR
    have hP := wrk2 (w2 := wFm aF aN aT aL aO aH aP aX ++ (wSt cI aN S ++ (wLo cI aL u4))) (wr := wFm aF aN aT aL aO aH aP aX) hP hD [12, 13, 14, 1, 2, 3, 4, 5, 6, 7, 8, 9, 10, 11] [0] rfl rfl (by decide) hk1 hB [0, 4, 5, 6, 7, 8, 9, 10, 11, 12, 13, 14, 1, 2, 3] rfl
    have hD := D_addr (w1 := wFm aF aN aT aL aO aH aP aX ++ (wSt cI aN S ++ (wLo cI aL u4))) hD rfl
    refine lv_isub hx hb dX6_usedShare_26 ?_
    refine lv_topi (fun v5 hv5 => ?_)
    have hR := bd_n hv5 hR
    refine lv_istore_n (lv' := [(2, .int v5), (1, .int r1), (0, .ref (aF 0))]) hx hb dX6_usedShare_27 rfl hl (by decide) rfl (fun ls hl => ?_)
    refine lv_iload_n hx hb dX6_usedShare_28 rfl (lv_at hl 0 rfl) ?_
    refine lv_i2d hx hb dX6_usedShare_29 ?_
    refine lv_iload_n hx hb dX6_usedShare_30 rfl (lv_at hl 1 rfl) ?_
    refine lv_i2d hx hb dX6_usedShare_31 ?_
    obtain ⟨hne6, hR⟩ := ckn_some hR
    refine lv_ddiv hx hb dX6_usedShare_32 hne6 ?_
    exact W.dret (v := (FP.ddiv (FP.i2d v5) (FP.i2d r1))) hx hb hr (fun t ht hW => ⟨⟨(FP.ddiv (FP.i2d v5) (FP.i2d r1)), u4, rfl, Option.some.inj hR, P_at ht hP⟩, hS.F ht⟩) hS.2.2 dX6_usedShare_33
  · rw [if_neg c_2] at hR
    refine lv_dconst1 hx hb dX6_usedShare_12 ?_
    exact W.dret (v := FP.dconst1) hx hb hr (fun t ht hW => ⟨⟨FP.dconst1, Y, rfl, Option.some.inj hR, P_at ht hP⟩, hS.F ht⟩) hS.2.2 dX6_usedShare_13
abbrev rm_X6_digest : Room := { frames := 6, cells := 0, slots := 0, locals := 152 }
abbrev q_X6_digest (dC : Nat → ClassId) (dI : Nat → Nat → Nat) (cI cZ cS : ClassId) (aF aN aT aL aO aH : Nat → Nat) (ah : Nat → Nat → Nat) (aP aX : Nat → Nat) (G : Pic) (N : Pic) (T : Pic) (res : Int64 × Pic × Pic) (A : Nat → Prop) : Array Value → State → Outcome → State → Prop := va_Ql (fun (r : Int64) (u : Pic × Pic) => (r, u) = res) (fun u t => va_P (dC, dI) vwCl (wFm aF aN aT aL aO aH aP aX ++ (wSt cI aN u.1 ++ (wLo cI aL u.2 ++ (wOu aO aN aL ++ (wHi cS aH ah G ++ (wSn cI cZ aP N ++ (wTx cI aX T))))))) t.heap) A
set_option maxHeartbeats 4000000 in
set_option maxRecDepth 100000 in
theorem met_X6_digest (l : Launch) (dC : Nat → ClassId) (dI : Nat → Nat → Nat) (cI cZ cS : ClassId) (aF aN aT aL aO aH : Nat → Nat) (ah : Nat → Nat → Nat) (aP aX : Nat → Nat) (S : Pic) (Y : Pic) (G : Pic) (N : Pic) (T : Pic) (sz : Nat)  (res : Int64 × Pic × Pic) (hR : f6_digest S Y G N T = some res) : Met l yX6_digest wsX6_digest rm_X6_digest (va_Pc [.ref (aF 0)] (pW (dC, dI) (tyS cI cZ cS) (wFm aF aN aT aL aO aH aP aX ++ (wSt cI aN S ++ (wLo cI aL Y ++ (wOu aO aN aL ++ (wHi cS aH ah G ++ (wSn cI cZ aP N ++ (wTx cI aX T))))))) sz)) (q_X6_digest dC dI cI cZ cS aF aN aT aL aO aH ah aP aX G N T res (va_A (wFm aF aN aT aL aO aH aP aX ++ (wSt cI aN S ++ (wLo cI aL Y ++ (wOu aO aN aL ++ (wHi cS aH ah G ++ (wSn cI cZ aP N ++ (wTx cI aX T))))))) sz)) 0 0 (va_A (wFm aF aN aT aL aO aH aP aX ++ (wSt cI aN S ++ (wLo cI aL Y ++ (wOu aO aN aL ++ (wHi cS aH ah G ++ (wSn cI cZ aP N ++ (wTx cI aX T))))))) sz) := by
  refine Met.ofW (cc := cX6_digest) (maxL := 5) (ret := (some .long)) (by decide) rfl ?_
  intro p e s m args below meth c s₁ B hml hv
  obtain ⟨rfl, hsz, hP, hK, hD0, hN⟩ := hv
  have hx := B.exec
  have hb := B.bytes
  have hr := B.returns
  have hts := atoms_spec (ws := wsX6_digest) B.pre
  have hown : s.vm.findClass RX6 = some m.cls := findClass_of_methodNamed B.named
  have hlocks := B.notSynchronized
  subst hsz
  have hD := hD0.self (sz := s.heap.size)
  generalize hAe : va_A (wFm aF aN aT aL aO aH aP aX ++ (wSt cI aN S ++ (wLo cI aL Y ++ (wOu aO aN aL ++ (wHi cS aH ah G ++ (wSn cI cZ aP N ++ (wTx cI aX T))))))) s.heap.size = A at hD ⊢
  have hA : ∀ q : Nat, s.heap.size ≤ q → A q := fun q h => by rw [← hAe]; exact Or.inr h
  have hS : va_S A s.heap s.heap [] := va_S.rf
  have hP : va_P (dC, dI) vwCl (wFm aF aN aT aL aO aH aP aX ++ (wSt cI aN S ++ (wLo cI aL Y ++ (wOu aO aN aL ++ (wHi cS aH ah G ++ (wSn cI cZ aP N ++ (wTx cI aX T))))))) s.heap := hP
  rw [f6_digest] at hR
  have hin6 : ∀ w ∈ wsX60, w ∈ wsX6_digest := by decide +kernel
  have hin5 : ∀ w ∈ wsX50, w ∈ wsX6_digest := by decide +kernel
  have hin3 : ∀ w ∈ wsX30, w ∈ wsX6_digest := by decide +kernel
  have hl := lv_entry ([.ref (aF 0)]) (n := 5) (Nat.le_of_ble_eq_true rfl)
  rw [lg_entry_eq]
  generalize (lg_sl ([.ref (aF 0)]) ++ List.replicate (5 - (lg_sl ([.ref (aF 0)])).length) Slot.unset).toArray = ls at hl ⊢
  have hl : lv_has ls 5 [(0, .ref (aF 0))] := hl
  refine lv_ldc2 (v := (2531 : Int64)) hx hb hown (hw_ hts 1 rfl) dX6_digest_0 ?_
  refine lv_lstore_n (lv' := [(1, .long (2531 : Int64)), (0, .ref (aF 0))]) hx hb dX6_digest_3 rfl hl (by decide) rfl (fun ls hl => ?_)
  refine lv_iconst (v := (0 : Int32)) hx hb dX6_digest_4 (by decide) ?_
  refine lv_istore_n (lv' := [(3, .int (0 : Int32)), (1, .long (2531 : Int64)), (0, .ref (aF 0))]) hx hb dX6_digest_5 rfl hl (by decide) rfl (fun ls hl => ?_)
  have LOOP6 : ∀ (k : Int64 → Pic → (Option (Int64 × Pic × Pic))), (∀ (x1_6 : Int64) (Y_6 : Pic) (H1 : Heap) (locs : List Loc), k x1_6 Y_6 = some res → va_P (dC, dI) vwCl (wFm aF aN aT aL aO aH aP aX ++ (wSt cI aN S ++ (wLo cI aL Y_6 ++ (wOu aO aN aL ++ (wHi cS aH ah G ++ (wSn cI cZ aP N ++ (wTx cI aX T))))))) H1 → va_D A (wFm aF aN aT aL aO aH aP aX ++ (wSt cI aN S ++ (wLo cI aL Y_6 ++ (wOu aO aN aL ++ (wHi cS aH ah G ++ (wSn cI cZ aP N ++ (wTx cI aX T))))))) → va_S A s.heap H1 locs → ∀ (ls : Array Slot), lv_has ls 5 [(1, .long x1_6), (0, .ref (aF 0))] → W p l e (headSpec wsX6_digest rm_X6_digest).room s m ([.ref (aF 0)] : List Value).toArray below meth c H1 locs 0 0 (MQ below (q_X6_digest dC dI cI cZ cS aF aN aT aL aO aH ah aP aX G N T res A) ([.ref (aF 0)] : List Value).toArray s 0 0 A) (F0 m 31 ls [])) → ∀ (nf : Nat) (x1_6 : Int64) (x3_6 : Int32) (Y_6 : Pic) (H1 : Heap) (locs : List Loc), f6_digest_L6 S G N nf x1_6 x3_6 Y_6 k = some res → va_P (dC, dI) vwCl (wFm aF aN aT aL aO aH aP aX ++ (wSt cI aN S ++ (wLo cI aL Y_6 ++ (wOu aO aN aL ++ (wHi cS aH ah G ++ (wSn cI cZ aP N ++ (wTx cI aX T))))))) H1 → va_D A (wFm aF aN aT aL aO aH aP aX ++ (wSt cI aN S ++ (wLo cI aL Y_6 ++ (wOu aO aN aL ++ (wHi cS aH ah G ++ (wSn cI cZ aP N ++ (wTx cI aX T))))))) → va_S A s.heap H1 locs → ∀ (ls : Array Slot), lv_has ls 5 [(1, .long x1_6), (3, .int x3_6), (0, .ref (aF 0))] → W p l e (headSpec wsX6_digest rm_X6_digest).room s m ([.ref (aF 0)] : List Value).toArray below meth c H1 locs 0 0 (MQ below (q_X6_digest dC dI cI cZ cS aF aN aT aL aO aH ah aP aX G N T res A) ([.ref (aF 0)] : List Value).toArray s 0 0 A) (F0 m 6 ls []) := by
    intro k hk nf
    induction nf with
    | zero =>
      intro x1_6 x3_6 Y_6 H1 locs hR hP hD hS ls hl
      rw [f6_digest_L6] at hR
      cases hR
    | succ nf ih =>
      intro x1_6 x3_6 Y_6 H1 locs hR hP hD hS ls hl
      rw [f6_digest_L6] at hR
      refine lv_iload_n hx hb dX6_digest_6 rfl (lv_at hl 1 rfl) ?_
      refine lv_bipush (v := (13 : Int32)) hx hb dX6_digest_7 (by decide) ?_
      refine lv_icmp_gt (tgt := 31) hx hb dX6_digest_9 (by decide) (fun c_1 => ?_) (fun c_1 => ?_)
      · rw [if_pos c_1] at hR
        exact hk x1_6 Y_6 _ _  hR hP hD hS ls (lv_sub hl [0, 2] rfl)
      · rw [if_neg c_1] at hR
        refine lv_ldc2 (v := (31 : Int64)) hx hb hown (hw_ hts 2 rfl) dX6_digest_12 ?_
        refine lv_lload_n hx hb dX6_digest_15 rfl (lv_at hl 0 rfl) ?_
        refine lv_lmul hx hb dX6_digest_16 ?_
        refine lv_aload_n hx hb dX6_digest_17 rfl (lv_at hl 2 rfl) ?_
        refine lv_iload_n hx hb dX6_digest_18 rfl (lv_at hl 1 rfl) ?_
        have hF := va_free (wc := wFm aF aN aT aL aO aH aP aX ++ (wSt cI aN S ++ (wLo cI aL Y_6 ++ (wOu aO aN aL ++ (wHi cS aH ah G ++ (wSn cI cZ aP N)))))) hD hS hA [0, 1, 2, 3, 4, 5, 6, 7, 8, 9, 10, 11, 12, 13, 14, 15, 16, 17, 18, 19, 20] rfl
        refine va_calli (va_runV (As := [.int x3_6]) (rest := [.long ((31 : Int64) * x1_6)]) ⟨hx, hb, hml, hown, hts⟩ (met_X6_figureOfAll l dC dI cI cZ cS aF aN aT aL aO aH ah aP aX S Y_6 G N H1.size x3_6) (cwV 1 hts gX6_digest_X6_figureOfAll rfl rfl rfl (by decide +kernel) ⟨Nat.le_of_ble_eq_true rfl, Nat.le_of_ble_eq_true rfl⟩) (pV (wc := wFm aF aN aT aL aO aH aP aX ++ (wSt cI aN S ++ (wLo cI aL Y_6 ++ (wOu aO aN aL ++ (wHi cS aH ah G ++ (wSn cI cZ aP N)))))) (ci := 6) (q0 := 0) hK hP hD hN [0, 1, 2, 3, 4, 5, 6, 7, 8, 9, 10, 11, 12, 13, 14, 15, 16, 17, 18, 19, 20] rfl (by decide) rfl rfl) rfl rfl hl.1 rfl (lv_room (Nat.le_of_ble_eq_true rfl)) dX6_digest_19 ⟨Nat.zero_le _, Nat.zero_le _⟩) hS (fun q _ h => hF q h) hF (fun r2 u3 t H2 locs ht hvm hw hB hz1 hk1 hS => ?_)
        try dsimp only at hw hB
        rw [ht] at hB
        have hR := bd2_n hw hR
        have hP := wrk2 (w2 := wFm aF aN aT aL aO aH aP aX ++ (wSt cI aN S ++ (wLo cI aL u3 ++ (wOu aO aN aL ++ (wHi cS aH ah G ++ (wSn cI cZ aP N ++ (wTx cI aX T))))))) (wr := wTx cI aX T) hP hD [0, 1, 2, 3, 4, 5, 6, 7, 8, 9, 10, 11, 12, 13, 14, 15, 16, 17, 18, 19, 20] [21, 22] rfl rfl (by decide) hk1 hB [2, 3, 4, 5, 6, 7, 8, 9, 10, 11, 12, 13, 14, 15, 16, 17, 18, 19, 20, 21, 22, 0, 1] rfl
        have hD := D_addr (w1 := wFm aF aN aT aL aO aH aP aX ++ (wSt cI aN S ++ (wLo cI aL u3 ++ (wOu aO aN aL ++ (wHi cS aH ah G ++ (wSn cI cZ aP N ++ (wTx cI aX T))))))) hD rfl
        refine lv_i2l (v := (r2).toInt64) hx hb dX6_digest_22 rfl ?_
        refine lv_ladd hx hb dX6_digest_23 ?_
        refine lv_topl (fun v4 hv4 => ?_)
        have hR := bd_n hv4 hR
        refine lv_lstore_n (lv' := [(1, .long v4), (3, .int x3_6), (0, .ref (aF 0))]) hx hb dX6_digest_24 rfl hl (by decide) rfl (fun ls hl => ?_)
        refine lv_iinc (v := (x3_6 + 1)) (lv' := [(3, .int (x3_6 + 1)), (1, .long v4), (0, .ref (aF 0))]) hx hb dX6_digest_25 hl (k := 1) rfl rfl (by decide) rfl (fun ls hl => ?_)
        refine lv_goto (tgt := 6) hx hb dX6_digest_28 (by decide) ?_
        exact ih v4 (x3_6 + 1) u3 _ _  hR hP hD hS ls (lv_sub hl [1, 0, 2] rfl)
  refine LOOP6 (fun x1_6 Y_6 => (f6_digest_L33 S 3 x1_6 (0 : Int32) (fun x1_33 => (f6_digest_L65  13 x1_33 (0 : Int32) S Y_6 (fun x1_65 S_65 Y_65 => (f6_digest_L131 S_65 (fuelN (0 : Int32) ((S_65 7) 0)) x1_65 (0 : Int32) (fun x1_131 => (f6_digest_L180  28 x1_131 (0 : Int32) S_65 Y_65 (fun x1_180 S_180 Y_180 => (ob2 (f6_usedShare S_180 Y_180) (fun r42 u43 => (ob1 (f6_bitsOfShare r42) (fun r45 => (bd (((31 : Int64) * x1_180) + r45) (fun v47 => (bd (((31 : Int64) * v47) + (((T 1) 0)).toInt64) (fun v48 => (f6_digest_L335 T (fuelN (0 : Int32) ((T 1) 0)) v48 (0 : Int32) (fun x1_335 => (some (x1_335, S_180, u43))))))))))))))))))))) (fun x1_6 Y_6 H1 locs hR hP hD hS ls hl => ?_) 15 (2531 : Int64) (0 : Int32) Y _ _  hR hP hD hS ls (lv_sub hl [1, 0, 2] rfl)
  try dsimp only at hR
  refine lv_iconst (v := (0 : Int32)) hx hb dX6_digest_31 (by decide) ?_
  refine lv_istore_n (lv' := [(3, .int (0 : Int32)), (1, .long x1_6), (0, .ref (aF 0))]) hx hb dX6_digest_32 rfl hl (by decide) rfl (fun ls hl => ?_)
  have LOOP33 : ∀ (k : Int64 → (Option (Int64 × Pic × Pic))), (∀ (x1_33 : Int64) (H2 : Heap) (locs : List Loc), k x1_33 = some res → va_P (dC, dI) vwCl (wFm aF aN aT aL aO aH aP aX ++ (wSt cI aN S ++ (wLo cI aL Y_6 ++ (wOu aO aN aL ++ (wHi cS aH ah G ++ (wSn cI cZ aP N ++ (wTx cI aX T))))))) H2 → va_D A (wFm aF aN aT aL aO aH aP aX ++ (wSt cI aN S ++ (wLo cI aL Y_6 ++ (wOu aO aN aL ++ (wHi cS aH ah G ++ (wSn cI cZ aP N ++ (wTx cI aX T))))))) → va_S A s.heap H2 locs → ∀ (ls : Array Slot), lv_has ls 5 [(1, .long x1_33), (0, .ref (aF 0))] → W p l e (headSpec wsX6_digest rm_X6_digest).room s m ([.ref (aF 0)] : List Value).toArray below meth c H2 locs 0 0 (MQ below (q_X6_digest dC dI cI cZ cS aF aN aT aL aO aH ah aP aX G N T res A) ([.ref (aF 0)] : List Value).toArray s 0 0 A) (F0 m 63 ls [])) → ∀ (nf : Nat) (x1_33 : Int64) (x3_33 : Int32) (H2 : Heap) (locs : List Loc), ((3 : Int32)).toInt - (x3_33).toInt ≤ (nf : Int) → f6_digest_L33 S nf x1_33 x3_33 k = some res → va_P (dC, dI) vwCl (wFm aF aN aT aL aO aH aP aX ++ (wSt cI aN S ++ (wLo cI aL Y_6 ++ (wOu aO aN aL ++ (wHi cS aH ah G ++ (wSn cI cZ aP N ++ (wTx cI aX T))))))) H2 → va_D A (wFm aF aN aT aL aO aH aP aX ++ (wSt cI aN S ++ (wLo cI aL Y_6 ++ (wOu aO aN aL ++ (wHi cS aH ah G ++ (wSn cI cZ aP N ++ (wTx cI aX T))))))) → va_S A s.heap H2 locs → ∀ (ls : Array Slot), lv_has ls 5 [(1, .long x1_33), (3, .int x3_33), (0, .ref (aF 0))] → W p l e (headSpec wsX6_digest rm_X6_digest).room s m ([.ref (aF 0)] : List Value).toArray below meth c H2 locs 0 0 (MQ below (q_X6_digest dC dI cI cZ cS aF aN aT aL aO aH ah aP aX G N T res A) ([.ref (aF 0)] : List Value).toArray s 0 0 A) (F0 m 33 ls []) := by
    intro k hk nf
    induction nf with
    | zero =>
      intro x1_33 x3_33 H2 locs hfu hR hP hD hS ls hl
      rw [f6_digest_L33] at hR
      refine lv_iload_n hx hb dX6_digest_33 rfl (lv_at hl 1 rfl) ?_
      refine lv_iconst (v := (3 : Int32)) hx hb dX6_digest_34 (by decide) ?_
      refine lv_icmp_ge (tgt := 63) hx hb dX6_digest_35 (by decide) (fun c_5 => ?_) (fun c_5 => ?_)
      · skip
        exact hk x1_33 _ _  hR hP hD hS ls (lv_sub hl [0, 2] rfl)
      · exact (fuel0 hfu c_5).elim
    | succ nf ih =>
      intro x1_33 x3_33 H2 locs hfu hR hP hD hS ls hl
      rw [f6_digest_L33] at hR
      refine lv_iload_n hx hb dX6_digest_33 rfl (lv_at hl 1 rfl) ?_
      refine lv_iconst (v := (3 : Int32)) hx hb dX6_digest_34 (by decide) ?_
      refine lv_icmp_ge (tgt := 63) hx hb dX6_digest_35 (by decide) (fun c_6 => ?_) (fun c_6 => ?_)
      · rw [if_pos c_6] at hR
        exact hk x1_33 _ _  hR hP hD hS ls (lv_sub hl [0, 2] rfl)
      · rw [if_neg c_6] at hR
        have hfu := fuelS hfu c_6
        refine lv_ldc2 (v := (31 : Int64)) hx hb hown (hw_ hts 2 rfl) dX6_digest_38 ?_
        refine lv_lload_n hx hb dX6_digest_41 rfl (lv_at hl 0 rfl) ?_
        refine lv_lmul hx hb dX6_digest_42 ?_
        refine lv_aload_n hx hb dX6_digest_43 rfl (lv_at hl 2 rfl) ?_
        refine va_get (D := (dC, dI)) (ci := 6) (v := .ref (aN 0)) (C := RX6) (T := TX6) (N := 7) hx hb hts hin6 hown hK hP 0 rfl rfl 0 (by decide) (hw_ hts 3 rfl) (fun _ h9 => h9) rfl dX6_digest_44 ?_
        refine va_get (D := (dC, dI)) (ci := 5) (v := .ref (aN 10)) (C := RX5) (T := TX5) (N := 12) hx hb hts hin5 hown hK hP 1 rfl rfl 10 (by decide) (hw_ hts 4 rfl) (fun _ h9 => h9) rfl dX6_digest_47 ?_
        refine lv_iload_n hx hb dX6_digest_50 rfl (lv_at hl 1 rfl) ?_
        refine va_calli (va_runS (As := [.ref (aN 10), .int x3_33]) (rest := [.long ((31 : Int64) * x1_33)]) ⟨hx, hb, hml, hown, hts⟩ (met_X6_at l dC dI cI cZ cS (aN 10) 3 (by decide) (S 10) H2.size x3_33) (va_cwS 2 hts gX6_digest_X6_at rfl rfl rfl (by decide +kernel) ⟨Nat.le_of_ble_eq_true rfl, Nat.le_of_ble_eq_true rfl⟩) (pS (wc := [((aN 10), .inl (cI, 3, .inl (S 10)))]) hK hP hD hN [10] rfl (by decide)) rfl rfl hl.1 rfl (lv_room (Nat.le_of_ble_eq_true rfl)) dX6_digest_51 ⟨Nat.zero_le _, Nat.zero_le _⟩) hS (fun q _ h => a0_in hS hA q h) (a0_in hS hA) (fun r7 u t H3 locs ht hvm hw hB hz1 hk1 hS => ?_)
        subst hw
        have hP := rdk hP hk1
        refine lv_i2l (v := ((f6_at 3 (S 10) x3_33)).toInt64) hx hb dX6_digest_54 rfl ?_
        refine lv_ladd hx hb dX6_digest_55 ?_
        refine lv_topl (fun v8 hv8 => ?_)
        have hR := bd_n hv8 hR
        refine lv_lstore_n (lv' := [(1, .long v8), (3, .int x3_33), (0, .ref (aF 0))]) hx hb dX6_digest_56 rfl hl (by decide) rfl (fun ls hl => ?_)
        refine lv_iinc (v := (x3_33 + 1)) (lv' := [(3, .int (x3_33 + 1)), (1, .long v8), (0, .ref (aF 0))]) hx hb dX6_digest_57 hl (k := 1) rfl rfl (by decide) rfl (fun ls hl => ?_)
        refine lv_goto (tgt := 33) hx hb dX6_digest_60 (by decide) ?_
        exact ih v8 (x3_33 + 1) _ _ hfu hR hP hD hS ls (lv_sub hl [1, 0, 2] rfl)
  refine LOOP33 (fun x1_33 => (f6_digest_L65  13 x1_33 (0 : Int32) S Y_6 (fun x1_65 S_65 Y_65 => (f6_digest_L131 S_65 (fuelN (0 : Int32) ((S_65 7) 0)) x1_65 (0 : Int32) (fun x1_131 => (f6_digest_L180  28 x1_131 (0 : Int32) S_65 Y_65 (fun x1_180 S_180 Y_180 => (ob2 (f6_usedShare S_180 Y_180) (fun r42 u43 => (ob1 (f6_bitsOfShare r42) (fun r45 => (bd (((31 : Int64) * x1_180) + r45) (fun v47 => (bd (((31 : Int64) * v47) + (((T 1) 0)).toInt64) (fun v48 => (f6_digest_L335 T (fuelN (0 : Int32) ((T 1) 0)) v48 (0 : Int32) (fun x1_335 => (some (x1_335, S_180, u43))))))))))))))))))) (fun x1_33 H2 locs hR hP hD hS ls hl => ?_) 3 x1_6 (0 : Int32) _ _ (by decide) hR hP hD hS ls (lv_sub hl [1, 0, 2] rfl)
  try dsimp only at hR
  refine lv_iconst (v := (0 : Int32)) hx hb dX6_digest_63 (by decide) ?_
  refine lv_istore_n (lv' := [(3, .int (0 : Int32)), (1, .long x1_33), (0, .ref (aF 0))]) hx hb dX6_digest_64 rfl hl (by decide) rfl (fun ls hl => ?_)
  have LOOP65 : ∀ (k : Int64 → Pic → Pic → (Option (Int64 × Pic × Pic))), (∀ (x1_65 : Int64) (S_65 : Pic) (Y_65 : Pic) (H3 : Heap) (locs : List Loc), k x1_65 S_65 Y_65 = some res → va_P (dC, dI) vwCl (wFm aF aN aT aL aO aH aP aX ++ (wSt cI aN S_65 ++ (wLo cI aL Y_65 ++ (wOu aO aN aL ++ (wHi cS aH ah G ++ (wSn cI cZ aP N ++ (wTx cI aX T))))))) H3 → va_D A (wFm aF aN aT aL aO aH aP aX ++ (wSt cI aN S_65 ++ (wLo cI aL Y_65 ++ (wOu aO aN aL ++ (wHi cS aH ah G ++ (wSn cI cZ aP N ++ (wTx cI aX T))))))) → va_S A s.heap H3 locs → ∀ (ls : Array Slot), lv_has ls 5 [(1, .long x1_65), (0, .ref (aF 0))] → W p l e (headSpec wsX6_digest rm_X6_digest).room s m ([.ref (aF 0)] : List Value).toArray below meth c H3 locs 0 0 (MQ below (q_X6_digest dC dI cI cZ cS aF aN aT aL aO aH ah aP aX G N T res A) ([.ref (aF 0)] : List Value).toArray s 0 0 A) (F0 m 129 ls [])) → ∀ (nf : Nat) (x1_65 : Int64) (x3_65 : Int32) (S_65 : Pic) (Y_65 : Pic) (H3 : Heap) (locs : List Loc), f6_digest_L65  nf x1_65 x3_65 S_65 Y_65 k = some res → va_P (dC, dI) vwCl (wFm aF aN aT aL aO aH aP aX ++ (wSt cI aN S_65 ++ (wLo cI aL Y_65 ++ (wOu aO aN aL ++ (wHi cS aH ah G ++ (wSn cI cZ aP N ++ (wTx cI aX T))))))) H3 → va_D A (wFm aF aN aT aL aO aH aP aX ++ (wSt cI aN S_65 ++ (wLo cI aL Y_65 ++ (wOu aO aN aL ++ (wHi cS aH ah G ++ (wSn cI cZ aP N ++ (wTx cI aX T))))))) → va_S A s.heap H3 locs → ∀ (ls : Array Slot), lv_has ls 5 [(1, .long x1_65), (3, .int x3_65), (0, .ref (aF 0))] → W p l e (headSpec wsX6_digest rm_X6_digest).room s m ([.ref (aF 0)] : List Value).toArray below meth c H3 locs 0 0 (MQ below (q_X6_digest dC dI cI cZ cS aF aN aT aL aO aH ah aP aX G N T res A) ([.ref (aF 0)] : List Value).toArray s 0 0 A) (F0 m 65 ls []) := by
    intro k hk nf
    induction nf with
    | zero =>
      intro x1_65 x3_65 S_65 Y_65 H3 locs hR hP hD hS ls hl
      rw [f6_digest_L65] at hR
      cases hR
    | succ nf ih =>
      intro x1_65 x3_65 S_65 Y_65 H3 locs hR hP hD hS ls hl
      rw [f6_digest_L65] at hR
      refine lv_iload_n hx hb dX6_digest_65 rfl (lv_at hl 1 rfl) ?_
      refine lv_aload_n hx hb dX6_digest_66 rfl (lv_at hl 2 rfl) ?_
      refine va_get (D := (dC, dI)) (ci := 6) (v := .ref (aN 0)) (C := RX6) (T := TX6) (N := 7) hx hb hts hin6 hown hK hP 0 rfl rfl 0 (by decide) (hw_ hts 3 rfl) (fun _ h9 => h9) rfl dX6_digest_67 ?_
      refine va_get (D := (dC, dI)) (ci := 5) (v := .int ((S_65 0) 0)) (C := RX5) (T := TX5) (N := 12) hx hb hts hin5 hown hK hP 1 rfl rfl 0 (by decide) (hw_ hts 5 rfl) (fun _ h9 => h9) rfl dX6_digest_70 ?_
      refine lv_icmp_ge (tgt := 129) hx hb dX6_digest_73 (by decide) (fun c_9 => ?_) (fun c_9 => ?_)
      · rw [if_pos c_9] at hR
        exact hk x1_65 S_65 Y_65 _ _  hR hP hD hS ls (lv_sub hl [0, 2] rfl)
      · rw [if_neg c_9] at hR
        refine lv_iconst (v := (0 : Int32)) hx hb dX6_digest_76 (by decide) ?_
        refine lv_istore (lv' := [(4, .int (0 : Int32)), (1, .long x1_65), (3, .int x3_65), (0, .ref (aF 0))]) hx hb dX6_digest_77 hl (by decide) rfl (fun ls hl => ?_)
        have LOOP79 : ∀ (k : Int64 → Pic → (Option (Int64 × Pic × Pic))), (∀ (x1_79 : Int64) (Y_79 : Pic) (H4 : Heap) (locs : List Loc), k x1_79 Y_79 = some res → va_P (dC, dI) vwCl (wFm aF aN aT aL aO aH aP aX ++ (wSt cI aN S_65 ++ (wLo cI aL Y_79 ++ (wOu aO aN aL ++ (wHi cS aH ah G ++ (wSn cI cZ aP N ++ (wTx cI aX T))))))) H4 → va_D A (wFm aF aN aT aL aO aH aP aX ++ (wSt cI aN S_65 ++ (wLo cI aL Y_79 ++ (wOu aO aN aL ++ (wHi cS aH ah G ++ (wSn cI cZ aP N ++ (wTx cI aX T))))))) → va_S A s.heap H4 locs → ∀ (ls : Array Slot), lv_has ls 5 [(1, .long x1_79), (3, .int x3_65), (0, .ref (aF 0))] → W p l e (headSpec wsX6_digest rm_X6_digest).room s m ([.ref (aF 0)] : List Value).toArray below meth c H4 locs 0 0 (MQ below (q_X6_digest dC dI cI cZ cS aF aN aT aL aO aH ah aP aX G N T res A) ([.ref (aF 0)] : List Value).toArray s 0 0 A) (F0 m 107 ls [])) → ∀ (nf : Nat) (x1_79 : Int64) (x4_79 : Int32) (Y_79 : Pic) (H4 : Heap) (locs : List Loc), f6_digest_L79 x3_65 S_65 nf x1_79 x4_79 Y_79 k = some res → va_P (dC, dI) vwCl (wFm aF aN aT aL aO aH aP aX ++ (wSt cI aN S_65 ++ (wLo cI aL Y_79 ++ (wOu aO aN aL ++ (wHi cS aH ah G ++ (wSn cI cZ aP N ++ (wTx cI aX T))))))) H4 → va_D A (wFm aF aN aT aL aO aH aP aX ++ (wSt cI aN S_65 ++ (wLo cI aL Y_79 ++ (wOu aO aN aL ++ (wHi cS aH ah G ++ (wSn cI cZ aP N ++ (wTx cI aX T))))))) → va_S A s.heap H4 locs → ∀ (ls : Array Slot), lv_has ls 5 [(1, .long x1_79), (4, .int x4_79), (3, .int x3_65), (0, .ref (aF 0))] → W p l e (headSpec wsX6_digest rm_X6_digest).room s m ([.ref (aF 0)] : List Value).toArray below meth c H4 locs 0 0 (MQ below (q_X6_digest dC dI cI cZ cS aF aN aT aL aO aH ah aP aX G N T res A) ([.ref (aF 0)] : List Value).toArray s 0 0 A) (F0 m 79 ls []) := by
          intro k hk nf
          induction nf with
          | zero =>
            intro x1_79 x4_79 Y_79 H4 locs hR hP hD hS ls hl
            rw [f6_digest_L79] at hR
            cases hR
          | succ nf ih =>
            intro x1_79 x4_79 Y_79 H4 locs hR hP hD hS ls hl
            rw [f6_digest_L79] at hR
            refine lv_iload hx hb dX6_digest_79 (lv_at hl 1 rfl) ?_
            refine lv_bipush (v := (8 : Int32)) hx hb dX6_digest_81 (by decide) ?_
            refine lv_icmp_gt (tgt := 107) hx hb dX6_digest_83 (by decide) (fun c_10 => ?_) (fun c_10 => ?_)
            · rw [if_pos c_10] at hR
              exact hk x1_79 Y_79 _ _  hR hP hD hS ls (lv_sub hl [0, 2, 3] rfl)
            · rw [if_neg c_10] at hR
              refine lv_ldc2 (v := (31 : Int64)) hx hb hown (hw_ hts 2 rfl) dX6_digest_86 ?_
              refine lv_lload_n hx hb dX6_digest_89 rfl (lv_at hl 0 rfl) ?_
              refine lv_lmul hx hb dX6_digest_90 ?_
              refine lv_aload_n hx hb dX6_digest_91 rfl (lv_at hl 3 rfl) ?_
              refine lv_iload_n hx hb dX6_digest_92 rfl (lv_at hl 2 rfl) ?_
              refine lv_iload hx hb dX6_digest_93 (lv_at hl 1 rfl) ?_
              have hF := va_free (wc := wFm aF aN aT aL aO aH aP aX ++ (wSt cI aN S_65 ++ (wLo cI aL Y_79))) hD hS hA [0, 1, 2, 3, 4, 5, 6, 7, 8, 9, 10, 11, 12, 13, 14] rfl
              refine va_calli (va_runV (As := [.int x3_65, .int x4_79]) (rest := [.long ((31 : Int64) * x1_79)]) ⟨hx, hb, hml, hown, hts⟩ (met_X6_figureOfDish l dC dI cI cZ cS aF aN aT aL aO aH ah aP aX S_65 Y_79 H4.size x3_65 x4_79) (cwV 2 hts gX6_digest_X6_figureOfDish rfl rfl rfl (by decide +kernel) ⟨Nat.le_of_ble_eq_true rfl, Nat.le_of_ble_eq_true rfl⟩) (pV (wc := wFm aF aN aT aL aO aH aP aX ++ (wSt cI aN S_65 ++ (wLo cI aL Y_79))) (ci := 6) (q0 := 0) hK hP hD hN [0, 1, 2, 3, 4, 5, 6, 7, 8, 9, 10, 11, 12, 13, 14] rfl (by decide) rfl rfl) rfl rfl hl.1 rfl (lv_room (Nat.le_of_ble_eq_true rfl)) dX6_digest_95 ⟨Nat.zero_le _, Nat.zero_le _⟩) hS (fun q _ h => hF q h) hF (fun r11 u12 t H5 locs ht hvm hw hB hz1 hk1 hS => ?_)
              try dsimp only at hw hB
              rw [ht] at hB
              have hR := bd2_n hw hR
              have hP := wrk2 (w2 := wFm aF aN aT aL aO aH aP aX ++ (wSt cI aN S_65 ++ (wLo cI aL u12 ++ (wOu aO aN aL ++ (wHi cS aH ah G ++ (wSn cI cZ aP N ++ (wTx cI aX T))))))) (wr := wOu aO aN aL ++ (wHi cS aH ah G ++ (wSn cI cZ aP N ++ (wTx cI aX T)))) hP hD [0, 1, 2, 3, 4, 5, 6, 7, 8, 9, 10, 11, 12, 13, 14] [15, 16, 17, 18, 19, 20, 21, 22] rfl rfl (by decide) hk1 hB [8, 9, 10, 11, 12, 13, 14, 15, 16, 17, 18, 19, 20, 21, 22, 0, 1, 2, 3, 4, 5, 6, 7] rfl
              have hD := D_addr (w1 := wFm aF aN aT aL aO aH aP aX ++ (wSt cI aN S_65 ++ (wLo cI aL u12 ++ (wOu aO aN aL ++ (wHi cS aH ah G ++ (wSn cI cZ aP N ++ (wTx cI aX T))))))) hD rfl
              refine lv_i2l (v := (r11).toInt64) hx hb dX6_digest_98 rfl ?_
              refine lv_ladd hx hb dX6_digest_99 ?_
              refine lv_topl (fun v13 hv13 => ?_)
              have hR := bd_n hv13 hR
              refine lv_lstore_n (lv' := [(1, .long v13), (4, .int x4_79), (3, .int x3_65), (0, .ref (aF 0))]) hx hb dX6_digest_100 rfl hl (by decide) rfl (fun ls hl => ?_)
              refine lv_iinc (v := (x4_79 + 1)) (lv' := [(4, .int (x4_79 + 1)), (1, .long v13), (3, .int x3_65), (0, .ref (aF 0))]) hx hb dX6_digest_101 hl (k := 1) rfl rfl (by decide) rfl (fun ls hl => ?_)
              refine lv_goto (tgt := 79) hx hb dX6_digest_104 (by decide) ?_
              exact ih v13 (x4_79 + 1) u12 _ _  hR hP hD hS ls (lv_sub hl [1, 0, 2, 3] rfl)
        refine LOOP79 (fun x1_79 Y_79 => (bd3 (f2_bestDayOf Y_79 S_65 x3_65) (fun r14 u15 u16 => (bd (((31 : Int64) * x1_79) + (r14).toInt64) (fun v17 => (f6_digest_L65  nf v17 (x3_65 + 1) u16 u15 k)))))) (fun x1_79 Y_79 H4 locs hR hP hD hS ls hl => ?_) 10 x1_65 (0 : Int32) Y_65 _ _  hR hP hD hS ls (lv_sub hl [1, 0, 2, 3] rfl)
        try dsimp only at hR
        refine lv_ldc2 (v := (31 : Int64)) hx hb hown (hw_ hts 2 rfl) dX6_digest_107 ?_
        refine lv_lload_n hx hb dX6_digest_110 rfl (lv_at hl 0 rfl) ?_
        refine lv_lmul hx hb dX6_digest_111 ?_
        refine lv_aload_n hx hb dX6_digest_112 rfl (lv_at hl 2 rfl) ?_
        refine va_get (D := (dC, dI)) (ci := 6) (v := .ref (aO 0)) (C := RX6) (T := TX6) (N := 7) hx hb hts hin6 hown hK hP 0 rfl rfl 3 (by decide) (hw_ hts 6 rfl) (fun _ h9 => h9) rfl dX6_digest_113 ?_
        refine lv_iload_n hx hb dX6_digest_116 rfl (lv_at hl 1 rfl) ?_
        have hF := va_free (wc := wOu aO aN aL ++ (wLo cI aL Y_79 ++ (wSt cI aN S_65))) hD hS hA [15, 12, 13, 14, 1, 2, 3, 4, 5, 6, 7, 8, 9, 10, 11] rfl
        refine va_calli (va_runV (As := [.int x3_65]) (rest := [.long ((31 : Int64) * x1_79)]) ⟨hx, hb, hml, hown, hts⟩ (met_X2_bestDayOf l dC dI cI cZ cS aO aL aN Y_79 S_65 H4.size x3_65) (cwV 1 hts gX6_digest_X2_bestDayOf rfl rfl rfl (by decide +kernel) ⟨Nat.le_of_ble_eq_true rfl, Nat.le_of_ble_eq_true rfl⟩) (pV (wc := wOu aO aN aL ++ (wLo cI aL Y_79 ++ (wSt cI aN S_65))) (ci := 2) (q0 := 15) hK hP hD hN [15, 12, 13, 14, 1, 2, 3, 4, 5, 6, 7, 8, 9, 10, 11] rfl (by decide) rfl rfl) rfl rfl hl.1 rfl (lv_room (Nat.le_of_ble_eq_true rfl)) dX6_digest_117 ⟨Nat.zero_le _, Nat.zero_le _⟩) hS (fun q _ h => hF q h) hF (fun r14 u t H5 locs ht hvm hw hB hz1 hk1 hS => ?_)
        obtain ⟨u15, u16⟩ := u
        try dsimp only at hw hB
        rw [ht] at hB
        have hR := bd3_n hw hR
        have hP := wrk2 (w2 := wFm aF aN aT aL aO aH aP aX ++ (wSt cI aN u16 ++ (wLo cI aL u15 ++ (wOu aO aN aL ++ (wHi cS aH ah G ++ (wSn cI cZ aP N ++ (wTx cI aX T))))))) (wr := wFm aF aN aT aL aO aH aP aX ++ (wHi cS aH ah G ++ (wSn cI cZ aP N ++ (wTx cI aX T)))) hP hD [15, 12, 13, 14, 1, 2, 3, 4, 5, 6, 7, 8, 9, 10, 11] [0, 16, 17, 18, 19, 20, 21, 22] rfl rfl (by decide) hk1 hB [0, 12, 13, 14, 15, 16, 17, 18, 19, 20, 21, 22, 9, 10, 11, 8, 1, 2, 3, 4, 5, 6, 7] rfl
        have hD := D_addr (w1 := wFm aF aN aT aL aO aH aP aX ++ (wSt cI aN u16 ++ (wLo cI aL u15 ++ (wOu aO aN aL ++ (wHi cS aH ah G ++ (wSn cI cZ aP N ++ (wTx cI aX T))))))) hD rfl
        refine lv_i2l (v := (r14).toInt64) hx hb dX6_digest_120 rfl ?_
        refine lv_ladd hx hb dX6_digest_121 ?_
        refine lv_topl (fun v17 hv17 => ?_)
        have hR := bd_n hv17 hR
        refine lv_lstore_n (lv' := [(1, .long v17), (3, .int x3_65), (0, .ref (aF 0))]) hx hb dX6_digest_122 rfl hl (by decide) rfl (fun ls hl => ?_)
        refine lv_iinc (v := (x3_65 + 1)) (lv' := [(3, .int (x3_65 + 1)), (1, .long v17), (0, .ref (aF 0))]) hx hb dX6_digest_123 hl (k := 1) rfl rfl (by decide) rfl (fun ls hl => ?_)
        refine lv_goto (tgt := 65) hx hb dX6_digest_126 (by decide) ?_
        exact ih v17 (x3_65 + 1) u16 u15 _ _  hR hP hD hS ls (lv_sub hl [1, 0, 2] rfl)
  refine LOOP65 (fun x1_65 S_65 Y_65 => (f6_digest_L131 S_65 (fuelN (0 : Int32) ((S_65 7) 0)) x1_65 (0 : Int32) (fun x1_131 => (f6_digest_L180  28 x1_131 (0 : Int32) S_65 Y_65 (fun x1_180 S_180 Y_180 => (ob2 (f6_usedShare S_180 Y_180) (fun r42 u43 => (ob1 (f6_bitsOfShare r42) (fun r45 => (bd (((31 : Int64) * x1_180) + r45) (fun v47 => (bd (((31 : Int64) * v47) + (((T 1) 0)).toInt64) (fun v48 => (f6_digest_L335 T (fuelN (0 : Int32) ((T 1) 0)) v48 (0 : Int32) (fun x1_335 => (some (x1_335, S_180, u43))))))))))))))))) (fun x1_65 S_65 Y_65 H3 locs hR hP hD hS ls hl => ?_) 13 x1_33 (0 : Int32) S Y_6 _ _  hR hP hD hS ls (lv_sub hl [1, 0, 2] rfl)
  try dsimp only at hR
  refine lv_iconst (v := (0 : Int32)) hx hb dX6_digest_129 (by decide) ?_
  refine lv_istore_n (lv' := [(3, .int (0 : Int32)), (1, .long x1_65), (0, .ref (aF 0))]) hx hb dX6_digest_130 rfl hl (by decide) rfl (fun ls hl => ?_)
  have LOOP131 : ∀ (k : Int64 → (Option (Int64 × Pic × Pic))), (∀ (x1_131 : Int64) (H4 : Heap) (locs : List Loc), k x1_131 = some res → va_P (dC, dI) vwCl (wFm aF aN aT aL aO aH aP aX ++ (wSt cI aN S_65 ++ (wLo cI aL Y_65 ++ (wOu aO aN aL ++ (wHi cS aH ah G ++ (wSn cI cZ aP N ++ (wTx cI aX T))))))) H4 → va_D A (wFm aF aN aT aL aO aH aP aX ++ (wSt cI aN S_65 ++ (wLo cI aL Y_65 ++ (wOu aO aN aL ++ (wHi cS aH ah G ++ (wSn cI cZ aP N ++ (wTx cI aX T))))))) → va_S A s.heap H4 locs → ∀ (ls : Array Slot), lv_has ls 5 [(1, .long x1_131), (0, .ref (aF 0))] → W p l e (headSpec wsX6_digest rm_X6_digest).room s m ([.ref (aF 0)] : List Value).toArray below meth c H4 locs 0 0 (MQ below (q_X6_digest dC dI cI cZ cS aF aN aT aL aO aH ah aP aX G N T res A) ([.ref (aF 0)] : List Value).toArray s 0 0 A) (F0 m 178 ls [])) → ∀ (nf : Nat) (x1_131 : Int64) (x3_131 : Int32) (H4 : Heap) (locs : List Loc), (((S_65 7) 0)).toInt - (x3_131).toInt ≤ (nf : Int) → f6_digest_L131 S_65 nf x1_131 x3_131 k = some res → va_P (dC, dI) vwCl (wFm aF aN aT aL aO aH aP aX ++ (wSt cI aN S_65 ++ (wLo cI aL Y_65 ++ (wOu aO aN aL ++ (wHi cS aH ah G ++ (wSn cI cZ aP N ++ (wTx cI aX T))))))) H4 → va_D A (wFm aF aN aT aL aO aH aP aX ++ (wSt cI aN S_65 ++ (wLo cI aL Y_65 ++ (wOu aO aN aL ++ (wHi cS aH ah G ++ (wSn cI cZ aP N ++ (wTx cI aX T))))))) → va_S A s.heap H4 locs → ∀ (ls : Array Slot), lv_has ls 5 [(1, .long x1_131), (3, .int x3_131), (0, .ref (aF 0))] → W p l e (headSpec wsX6_digest rm_X6_digest).room s m ([.ref (aF 0)] : List Value).toArray below meth c H4 locs 0 0 (MQ below (q_X6_digest dC dI cI cZ cS aF aN aT aL aO aH ah aP aX G N T res A) ([.ref (aF 0)] : List Value).toArray s 0 0 A) (F0 m 131 ls []) := by
    intro k hk nf
    induction nf with
    | zero =>
      intro x1_131 x3_131 H4 locs hfu hR hP hD hS ls hl
      rw [f6_digest_L131] at hR
      refine lv_iload_n hx hb dX6_digest_131 rfl (lv_at hl 1 rfl) ?_
      refine lv_aload_n hx hb dX6_digest_132 rfl (lv_at hl 2 rfl) ?_
      refine va_get (D := (dC, dI)) (ci := 6) (v := .ref (aN 0)) (C := RX6) (T := TX6) (N := 7) hx hb hts hin6 hown hK hP 0 rfl rfl 0 (by decide) (hw_ hts 3 rfl) (fun _ h9 => h9) rfl dX6_digest_133 ?_
      refine va_get (D := (dC, dI)) (ci := 5) (v := .int ((S_65 7) 0)) (C := RX5) (T := TX5) (N := 12) hx hb hts hin5 hown hK hP 1 rfl rfl 7 (by decide) (hw_ hts 7 rfl) (fun _ h9 => h9) rfl dX6_digest_136 ?_
      refine lv_icmp_ge (tgt := 178) hx hb dX6_digest_139 (by decide) (fun c_18 => ?_) (fun c_18 => ?_)
      · skip
        exact hk x1_131 _ _  hR hP hD hS ls (lv_sub hl [0, 2] rfl)
      · exact (fuel0 hfu c_18).elim
    | succ nf ih =>
      intro x1_131 x3_131 H4 locs hfu hR hP hD hS ls hl
      rw [f6_digest_L131] at hR
      refine lv_iload_n hx hb dX6_digest_131 rfl (lv_at hl 1 rfl) ?_
      refine lv_aload_n hx hb dX6_digest_132 rfl (lv_at hl 2 rfl) ?_
      refine va_get (D := (dC, dI)) (ci := 6) (v := .ref (aN 0)) (C := RX6) (T := TX6) (N := 7) hx hb hts hin6 hown hK hP 0 rfl rfl 0 (by decide) (hw_ hts 3 rfl) (fun _ h9 => h9) rfl dX6_digest_133 ?_
      refine va_get (D := (dC, dI)) (ci := 5) (v := .int ((S_65 7) 0)) (C := RX5) (T := TX5) (N := 12) hx hb hts hin5 hown hK hP 1 rfl rfl 7 (by decide) (hw_ hts 7 rfl) (fun _ h9 => h9) rfl dX6_digest_136 ?_
      refine lv_icmp_ge (tgt := 178) hx hb dX6_digest_139 (by decide) (fun c_19 => ?_) (fun c_19 => ?_)
      · rw [if_pos c_19] at hR
        exact hk x1_131 _ _  hR hP hD hS ls (lv_sub hl [0, 2] rfl)
      · rw [if_neg c_19] at hR
        have hfu := fuelS hfu c_19
        refine lv_iconst (v := (0 : Int32)) hx hb dX6_digest_142 (by decide) ?_
        refine lv_istore (lv' := [(4, .int (0 : Int32)), (1, .long x1_131), (3, .int x3_131), (0, .ref (aF 0))]) hx hb dX6_digest_143 hl (by decide) rfl (fun ls hl => ?_)
        have LOOP145 : ∀ (k : Int64 → (Option (Int64 × Pic × Pic))), (∀ (x1_145 : Int64) (H5 : Heap) (locs : List Loc), k x1_145 = some res → va_P (dC, dI) vwCl (wFm aF aN aT aL aO aH aP aX ++ (wSt cI aN S_65 ++ (wLo cI aL Y_65 ++ (wOu aO aN aL ++ (wHi cS aH ah G ++ (wSn cI cZ aP N ++ (wTx cI aX T))))))) H5 → va_D A (wFm aF aN aT aL aO aH aP aX ++ (wSt cI aN S_65 ++ (wLo cI aL Y_65 ++ (wOu aO aN aL ++ (wHi cS aH ah G ++ (wSn cI cZ aP N ++ (wTx cI aX T))))))) → va_S A s.heap H5 locs → ∀ (ls : Array Slot), lv_has ls 5 [(1, .long x1_145), (3, .int x3_131), (0, .ref (aF 0))] → W p l e (headSpec wsX6_digest rm_X6_digest).room s m ([.ref (aF 0)] : List Value).toArray below meth c H5 locs 0 0 (MQ below (q_X6_digest dC dI cI cZ cS aF aN aT aL aO aH ah aP aX G N T res A) ([.ref (aF 0)] : List Value).toArray s 0 0 A) (F0 m 172 ls [])) → ∀ (nf : Nat) (x1_145 : Int64) (x4_145 : Int32) (H5 : Heap) (locs : List Loc), f6_digest_L145 S_65 x3_131 nf x1_145 x4_145 k = some res → va_P (dC, dI) vwCl (wFm aF aN aT aL aO aH aP aX ++ (wSt cI aN S_65 ++ (wLo cI aL Y_65 ++ (wOu aO aN aL ++ (wHi cS aH ah G ++ (wSn cI cZ aP N ++ (wTx cI aX T))))))) H5 → va_D A (wFm aF aN aT aL aO aH aP aX ++ (wSt cI aN S_65 ++ (wLo cI aL Y_65 ++ (wOu aO aN aL ++ (wHi cS aH ah G ++ (wSn cI cZ aP N ++ (wTx cI aX T))))))) → va_S A s.heap H5 locs → ∀ (ls : Array Slot), lv_has ls 5 [(1, .long x1_145), (4, .int x4_145), (3, .int x3_131), (0, .ref (aF 0))] → W p l e (headSpec wsX6_digest rm_X6_digest).room s m ([.ref (aF 0)] : List Value).toArray below meth c H5 locs 0 0 (MQ below (q_X6_digest dC dI cI cZ cS aF aN aT aL aO aH ah aP aX G N T res A) ([.ref (aF 0)] : List Value).toArray s 0 0 A) (F0 m 145 ls []) := by
          intro k hk nf
          induction nf with
          | zero =>
            intro x1_145 x4_145 H5 locs hR hP hD hS ls hl
            rw [f6_digest_L145] at hR
            cases hR
          | succ nf ih =>
            intro x1_145 x4_145 H5 locs hR hP hD hS ls hl
            rw [f6_digest_L145] at hR
            refine lv_iload hx hb dX6_digest_145 (lv_at hl 1 rfl) ?_
            refine lv_iconst (v := (2 : Int32)) hx hb dX6_digest_147 (by decide) ?_
            refine lv_icmp_gt (tgt := 172) hx hb dX6_digest_148 (by decide) (fun c_20 => ?_) (fun c_20 => ?_)
            · rw [if_pos c_20] at hR
              exact hk x1_145 _ _  hR hP hD hS ls (lv_sub hl [0, 2, 3] rfl)
            · rw [if_neg c_20] at hR
              refine lv_ldc2 (v := (31 : Int64)) hx hb hown (hw_ hts 2 rfl) dX6_digest_151 ?_
              refine lv_lload_n hx hb dX6_digest_154 rfl (lv_at hl 0 rfl) ?_
              refine lv_lmul hx hb dX6_digest_155 ?_
              refine lv_aload_n hx hb dX6_digest_156 rfl (lv_at hl 3 rfl) ?_
              refine lv_iload_n hx hb dX6_digest_157 rfl (lv_at hl 2 rfl) ?_
              refine lv_iload hx hb dX6_digest_158 (lv_at hl 1 rfl) ?_
              refine va_calli (va_runV (As := [.int x3_131, .int x4_145]) (rest := [.long ((31 : Int64) * x1_145)]) ⟨hx, hb, hml, hown, hts⟩ (met_X6_figureOfGuest l dC dI cI cZ cS aF aN aT aL aO aH ah aP aX S_65 H5.size x3_131 x4_145) (cwV 2 hts gX6_digest_X6_figureOfGuest rfl rfl rfl (by decide +kernel) ⟨Nat.le_of_ble_eq_true rfl, Nat.le_of_ble_eq_true rfl⟩) (pV (wc := wFm aF aN aT aL aO aH aP aX ++ (wSt cI aN S_65)) (ci := 6) (q0 := 0) hK hP hD hN [0, 1, 2, 3, 4, 5, 6, 7, 8, 9, 10, 11] rfl (by decide) rfl rfl) rfl rfl hl.1 rfl (lv_room (Nat.le_of_ble_eq_true rfl)) dX6_digest_160 ⟨Nat.zero_le _, Nat.zero_le _⟩) hS (fun q _ h => a0_in hS hA q h) (a0_in hS hA) (fun r21 u t H6 locs ht hvm hw hB hz1 hk1 hS => ?_)
              have hR := bd_n hw hR
              have hP := rdk hP hk1
              refine lv_i2l (v := (r21).toInt64) hx hb dX6_digest_163 rfl ?_
              refine lv_ladd hx hb dX6_digest_164 ?_
              refine lv_topl (fun v22 hv22 => ?_)
              have hR := bd_n hv22 hR
              refine lv_lstore_n (lv' := [(1, .long v22), (4, .int x4_145), (3, .int x3_131), (0, .ref (aF 0))]) hx hb dX6_digest_165 rfl hl (by decide) rfl (fun ls hl => ?_)
              refine lv_iinc (v := (x4_145 + 1)) (lv' := [(4, .int (x4_145 + 1)), (1, .long v22), (3, .int x3_131), (0, .ref (aF 0))]) hx hb dX6_digest_166 hl (k := 1) rfl rfl (by decide) rfl (fun ls hl => ?_)
              refine lv_goto (tgt := 145) hx hb dX6_digest_169 (by decide) ?_
              exact ih v22 (x4_145 + 1) _ _  hR hP hD hS ls (lv_sub hl [1, 0, 2, 3] rfl)
        refine LOOP145 (fun x1_145 => (f6_digest_L131 S_65 nf x1_145 (x3_131 + 1) k)) (fun x1_145 H5 locs hR hP hD hS ls hl => ?_) 4 x1_131 (0 : Int32) _ _  hR hP hD hS ls (lv_sub hl [1, 0, 2, 3] rfl)
        try dsimp only at hR
        refine lv_iinc (v := (x3_131 + 1)) (lv' := [(3, .int (x3_131 + 1)), (1, .long x1_145), (0, .ref (aF 0))]) hx hb dX6_digest_172 hl (k := 1) rfl rfl (by decide) rfl (fun ls hl => ?_)
        refine lv_goto (tgt := 131) hx hb dX6_digest_175 (by decide) ?_
        exact ih x1_145 (x3_131 + 1) _ _ hfu hR hP hD hS ls (lv_sub hl [1, 0, 2] rfl)
  refine LOOP131 (fun x1_131 => (f6_digest_L180  28 x1_131 (0 : Int32) S_65 Y_65 (fun x1_180 S_180 Y_180 => (ob2 (f6_usedShare S_180 Y_180) (fun r42 u43 => (ob1 (f6_bitsOfShare r42) (fun r45 => (bd (((31 : Int64) * x1_180) + r45) (fun v47 => (bd (((31 : Int64) * v47) + (((T 1) 0)).toInt64) (fun v48 => (f6_digest_L335 T (fuelN (0 : Int32) ((T 1) 0)) v48 (0 : Int32) (fun x1_335 => (some (x1_335, S_180, u43))))))))))))))) (fun x1_131 H4 locs hR hP hD hS ls hl => ?_) (fuelN (0 : Int32) ((S_65 7) 0)) x1_65 (0 : Int32) _ _ (fuelE _ _) hR hP hD hS ls (lv_sub hl [1, 0, 2] rfl)
  try dsimp only at hR
  refine lv_iconst (v := (0 : Int32)) hx hb dX6_digest_178 (by decide) ?_
  refine lv_istore_n (lv' := [(3, .int (0 : Int32)), (1, .long x1_131), (0, .ref (aF 0))]) hx hb dX6_digest_179 rfl hl (by decide) rfl (fun ls hl => ?_)
  have LOOP180 : ∀ (k : Int64 → Pic → Pic → (Option (Int64 × Pic × Pic))), (∀ (x1_180 : Int64) (S_180 : Pic) (Y_180 : Pic) (H5 : Heap) (locs : List Loc), k x1_180 S_180 Y_180 = some res → va_P (dC, dI) vwCl (wFm aF aN aT aL aO aH aP aX ++ (wSt cI aN S_180 ++ (wLo cI aL Y_180 ++ (wOu aO aN aL ++ (wHi cS aH ah G ++ (wSn cI cZ aP N ++ (wTx cI aX T))))))) H5 → va_D A (wFm aF aN aT aL aO aH aP aX ++ (wSt cI aN S_180 ++ (wLo cI aL Y_180 ++ (wOu aO aN aL ++ (wHi cS aH ah G ++ (wSn cI cZ aP N ++ (wTx cI aX T))))))) → va_S A s.heap H5 locs → ∀ (ls : Array Slot), lv_has ls 5 [(1, .long x1_180), (0, .ref (aF 0))] → W p l e (headSpec wsX6_digest rm_X6_digest).room s m ([.ref (aF 0)] : List Value).toArray below meth c H5 locs 0 0 (MQ below (q_X6_digest dC dI cI cZ cS aF aN aT aL aO aH ah aP aX G N T res A) ([.ref (aF 0)] : List Value).toArray s 0 0 A) (F0 m 304 ls [])) → ∀ (nf : Nat) (x1_180 : Int64) (x3_180 : Int32) (S_180 : Pic) (Y_180 : Pic) (H5 : Heap) (locs : List Loc), ((28 : Int32)).toInt - (x3_180).toInt ≤ (nf : Int) → f6_digest_L180  nf x1_180 x3_180 S_180 Y_180 k = some res → va_P (dC, dI) vwCl (wFm aF aN aT aL aO aH aP aX ++ (wSt cI aN S_180 ++ (wLo cI aL Y_180 ++ (wOu aO aN aL ++ (wHi cS aH ah G ++ (wSn cI cZ aP N ++ (wTx cI aX T))))))) H5 → va_D A (wFm aF aN aT aL aO aH aP aX ++ (wSt cI aN S_180 ++ (wLo cI aL Y_180 ++ (wOu aO aN aL ++ (wHi cS aH ah G ++ (wSn cI cZ aP N ++ (wTx cI aX T))))))) → va_S A s.heap H5 locs → ∀ (ls : Array Slot), lv_has ls 5 [(1, .long x1_180), (3, .int x3_180), (0, .ref (aF 0))] → W p l e (headSpec wsX6_digest rm_X6_digest).room s m ([.ref (aF 0)] : List Value).toArray below meth c H5 locs 0 0 (MQ below (q_X6_digest dC dI cI cZ cS aF aN aT aL aO aH ah aP aX G N T res A) ([.ref (aF 0)] : List Value).toArray s 0 0 A) (F0 m 180 ls []) := by
    intro k hk nf
    induction nf with
    | zero =>
      intro x1_180 x3_180 S_180 Y_180 H5 locs hfu hR hP hD hS ls hl
      rw [f6_digest_L180] at hR
      refine lv_iload_n hx hb dX6_digest_180 rfl (lv_at hl 1 rfl) ?_
      refine lv_bipush (v := (28 : Int32)) hx hb dX6_digest_181 (by decide) ?_
      refine lv_icmp_ge (tgt := 304) hx hb dX6_digest_183 (by decide) (fun c_23 => ?_) (fun c_23 => ?_)
      · skip
        exact hk x1_180 S_180 Y_180 _ _  hR hP hD hS ls (lv_sub hl [0, 2] rfl)
      · exact (fuel0 hfu c_23).elim
    | succ nf ih =>
      intro x1_180 x3_180 S_180 Y_180 H5 locs hfu hR hP hD hS ls hl
      rw [f6_digest_L180] at hR
      refine lv_iload_n hx hb dX6_digest_180 rfl (lv_at hl 1 rfl) ?_
      refine lv_bipush (v := (28 : Int32)) hx hb dX6_digest_181 (by decide) ?_
      refine lv_icmp_ge (tgt := 304) hx hb dX6_digest_183 (by decide) (fun c_24 => ?_) (fun c_24 => ?_)
      · rw [if_pos c_24] at hR
        exact hk x1_180 S_180 Y_180 _ _  hR hP hD hS ls (lv_sub hl [0, 2] rfl)
      · rw [if_neg c_24] at hR
        have hfu := fuelS hfu c_24
        refine lv_iconst (v := (0 : Int32)) hx hb dX6_digest_186 (by decide) ?_
        refine lv_istore (lv' := [(4, .int (0 : Int32)), (1, .long x1_180), (3, .int x3_180), (0, .ref (aF 0))]) hx hb dX6_digest_187 hl (by decide) rfl (fun ls hl => ?_)
        have LOOP189 : ∀ (k : Int64 → (Option (Int64 × Pic × Pic))), (∀ (x1_189 : Int64) (H6 : Heap) (locs : List Loc), k x1_189 = some res → va_P (dC, dI) vwCl (wFm aF aN aT aL aO aH aP aX ++ (wSt cI aN S_180 ++ (wLo cI aL Y_180 ++ (wOu aO aN aL ++ (wHi cS aH ah G ++ (wSn cI cZ aP N ++ (wTx cI aX T))))))) H6 → va_D A (wFm aF aN aT aL aO aH aP aX ++ (wSt cI aN S_180 ++ (wLo cI aL Y_180 ++ (wOu aO aN aL ++ (wHi cS aH ah G ++ (wSn cI cZ aP N ++ (wTx cI aX T))))))) → va_S A s.heap H6 locs → ∀ (ls : Array Slot), lv_has ls 5 [(1, .long x1_189), (3, .int x3_180), (0, .ref (aF 0))] → W p l e (headSpec wsX6_digest rm_X6_digest).room s m ([.ref (aF 0)] : List Value).toArray below meth c H6 locs 0 0 (MQ below (q_X6_digest dC dI cI cZ cS aF aN aT aL aO aH ah aP aX G N T res A) ([.ref (aF 0)] : List Value).toArray s 0 0 A) (F0 m 216 ls [])) → ∀ (nf : Nat) (x1_189 : Int64) (x4_189 : Int32) (H6 : Heap) (locs : List Loc), f6_digest_L189 x3_180 S_180 nf x1_189 x4_189 k = some res → va_P (dC, dI) vwCl (wFm aF aN aT aL aO aH aP aX ++ (wSt cI aN S_180 ++ (wLo cI aL Y_180 ++ (wOu aO aN aL ++ (wHi cS aH ah G ++ (wSn cI cZ aP N ++ (wTx cI aX T))))))) H6 → va_D A (wFm aF aN aT aL aO aH aP aX ++ (wSt cI aN S_180 ++ (wLo cI aL Y_180 ++ (wOu aO aN aL ++ (wHi cS aH ah G ++ (wSn cI cZ aP N ++ (wTx cI aX T))))))) → va_S A s.heap H6 locs → ∀ (ls : Array Slot), lv_has ls 5 [(1, .long x1_189), (4, .int x4_189), (3, .int x3_180), (0, .ref (aF 0))] → W p l e (headSpec wsX6_digest rm_X6_digest).room s m ([.ref (aF 0)] : List Value).toArray below meth c H6 locs 0 0 (MQ below (q_X6_digest dC dI cI cZ cS aF aN aT aL aO aH ah aP aX G N T res A) ([.ref (aF 0)] : List Value).toArray s 0 0 A) (F0 m 189 ls []) := by
          intro k hk nf
          induction nf with
          | zero =>
            intro x1_189 x4_189 H6 locs hR hP hD hS ls hl
            rw [f6_digest_L189] at hR
            cases hR
          | succ nf ih =>
            intro x1_189 x4_189 H6 locs hR hP hD hS ls hl
            rw [f6_digest_L189] at hR
            refine lv_iload hx hb dX6_digest_189 (lv_at hl 1 rfl) ?_
            refine lv_iconst (v := (4 : Int32)) hx hb dX6_digest_191 (by decide) ?_
            refine lv_icmp_gt (tgt := 216) hx hb dX6_digest_192 (by decide) (fun c_25 => ?_) (fun c_25 => ?_)
            · rw [if_pos c_25] at hR
              exact hk x1_189 _ _  hR hP hD hS ls (lv_sub hl [0, 2, 3] rfl)
            · rw [if_neg c_25] at hR
              refine lv_ldc2 (v := (31 : Int64)) hx hb hown (hw_ hts 2 rfl) dX6_digest_195 ?_
              refine lv_lload_n hx hb dX6_digest_198 rfl (lv_at hl 0 rfl) ?_
              refine lv_lmul hx hb dX6_digest_199 ?_
              refine lv_aload_n hx hb dX6_digest_200 rfl (lv_at hl 3 rfl) ?_
              refine lv_iload_n hx hb dX6_digest_201 rfl (lv_at hl 2 rfl) ?_
              refine lv_iload hx hb dX6_digest_202 (lv_at hl 1 rfl) ?_
              refine va_calli (va_runV (As := [.int x3_180, .int x4_189]) (rest := [.long ((31 : Int64) * x1_189)]) ⟨hx, hb, hml, hown, hts⟩ (met_X6_figureOfDay l dC dI cI cZ cS aF aN aT aL aO aH ah aP aX S_180 Y_180 H6.size x3_180 x4_189) (cwV 2 hts gX6_digest_X6_figureOfDay rfl rfl rfl (by decide +kernel) ⟨Nat.le_of_ble_eq_true rfl, Nat.le_of_ble_eq_true rfl⟩) (pV (wc := wFm aF aN aT aL aO aH aP aX ++ (wSt cI aN S_180 ++ (wLo cI aL Y_180 ++ (wOu aO aN aL)))) (ci := 6) (q0 := 0) hK hP hD hN [0, 1, 2, 3, 4, 5, 6, 7, 8, 9, 10, 11, 12, 13, 14, 15] rfl (by decide) rfl rfl) rfl rfl hl.1 rfl (lv_room (Nat.le_of_ble_eq_true rfl)) dX6_digest_204 ⟨Nat.zero_le _, Nat.zero_le _⟩) hS (fun q _ h => a0_in hS hA q h) (a0_in hS hA) (fun r26 u t H7 locs ht hvm hw hB hz1 hk1 hS => ?_)
              have hR := bd_n hw hR
              have hP := rdk hP hk1
              refine lv_i2l (v := (r26).toInt64) hx hb dX6_digest_207 rfl ?_
              refine lv_ladd hx hb dX6_digest_208 ?_
              refine lv_topl (fun v27 hv27 => ?_)
              have hR := bd_n hv27 hR
              refine lv_lstore_n (lv' := [(1, .long v27), (4, .int x4_189), (3, .int x3_180), (0, .ref (aF 0))]) hx hb dX6_digest_209 rfl hl (by decide) rfl (fun ls hl => ?_)
              refine lv_iinc (v := (x4_189 + 1)) (lv' := [(4, .int (x4_189 + 1)), (1, .long v27), (3, .int x3_180), (0, .ref (aF 0))]) hx hb dX6_digest_210 hl (k := 1) rfl rfl (by decide) rfl (fun ls hl => ?_)
              refine lv_goto (tgt := 189) hx hb dX6_digest_213 (by decide) ?_
              exact ih v27 (x4_189 + 1) _ _  hR hP hD hS ls (lv_sub hl [1, 0, 2, 3] rfl)
        refine LOOP189 (fun x1_189 => (f6_digest_L219 x3_180 3 x1_189 (0 : Int32) S_180 Y_180 (fun x1_219 S_219 Y_219 => (f6_digest_L180  nf x1_219 (x3_180 + 1) S_219 Y_219 k)))) (fun x1_189 H6 locs hR hP hD hS ls hl => ?_) 6 x1_180 (0 : Int32) _ _  hR hP hD hS ls (lv_sub hl [1, 0, 2, 3] rfl)
        try dsimp only at hR
        refine lv_iconst (v := (0 : Int32)) hx hb dX6_digest_216 (by decide) ?_
        refine lv_istore (lv' := [(4, .int (0 : Int32)), (1, .long x1_189), (3, .int x3_180), (0, .ref (aF 0))]) hx hb dX6_digest_217 hl (by decide) rfl (fun ls hl => ?_)
        have LOOP219 : ∀ (k : Int64 → Pic → Pic → (Option (Int64 × Pic × Pic))), (∀ (x1_219 : Int64) (S_219 : Pic) (Y_219 : Pic) (H7 : Heap) (locs : List Loc), k x1_219 S_219 Y_219 = some res → va_P (dC, dI) vwCl (wFm aF aN aT aL aO aH aP aX ++ (wSt cI aN S_219 ++ (wLo cI aL Y_219 ++ (wOu aO aN aL ++ (wHi cS aH ah G ++ (wSn cI cZ aP N ++ (wTx cI aX T))))))) H7 → va_D A (wFm aF aN aT aL aO aH aP aX ++ (wSt cI aN S_219 ++ (wLo cI aL Y_219 ++ (wOu aO aN aL ++ (wHi cS aH ah G ++ (wSn cI cZ aP N ++ (wTx cI aX T))))))) → va_S A s.heap H7 locs → ∀ (ls : Array Slot), lv_has ls 5 [(1, .long x1_219), (3, .int x3_180), (0, .ref (aF 0))] → W p l e (headSpec wsX6_digest rm_X6_digest).room s m ([.ref (aF 0)] : List Value).toArray below meth c H7 locs 0 0 (MQ below (q_X6_digest dC dI cI cZ cS aF aN aT aL aO aH ah aP aX G N T res A) ([.ref (aF 0)] : List Value).toArray s 0 0 A) (F0 m 298 ls [])) → ∀ (nf : Nat) (x1_219 : Int64) (x4_219 : Int32) (S_219 : Pic) (Y_219 : Pic) (H7 : Heap) (locs : List Loc), ((3 : Int32)).toInt - (x4_219).toInt ≤ (nf : Int) → f6_digest_L219 x3_180 nf x1_219 x4_219 S_219 Y_219 k = some res → va_P (dC, dI) vwCl (wFm aF aN aT aL aO aH aP aX ++ (wSt cI aN S_219 ++ (wLo cI aL Y_219 ++ (wOu aO aN aL ++ (wHi cS aH ah G ++ (wSn cI cZ aP N ++ (wTx cI aX T))))))) H7 → va_D A (wFm aF aN aT aL aO aH aP aX ++ (wSt cI aN S_219 ++ (wLo cI aL Y_219 ++ (wOu aO aN aL ++ (wHi cS aH ah G ++ (wSn cI cZ aP N ++ (wTx cI aX T))))))) → va_S A s.heap H7 locs → ∀ (ls : Array Slot), lv_has ls 5 [(1, .long x1_219), (4, .int x4_219), (3, .int x3_180), (0, .ref (aF 0))] → W p l e (headSpec wsX6_digest rm_X6_digest).room s m ([.ref (aF 0)] : List Value).toArray below meth c H7 locs 0 0 (MQ below (q_X6_digest dC dI cI cZ cS aF aN aT aL aO aH ah aP aX G N T res A) ([.ref (aF 0)] : List Value).toArray s 0 0 A) (F0 m 219 ls []) := by
          intro k hk nf
          induction nf with
          | zero =>
            intro x1_219 x4_219 S_219 Y_219 H7 locs hfu hR hP hD hS ls hl
            rw [f6_digest_L219] at hR
            refine lv_iload hx hb dX6_digest_219 (lv_at hl 1 rfl) ?_
            refine lv_iconst (v := (3 : Int32)) hx hb dX6_digest_221 (by decide) ?_
            refine lv_icmp_ge (tgt := 298) hx hb dX6_digest_222 (by decide) (fun c_28 => ?_) (fun c_28 => ?_)
            · skip
              exact hk x1_219 S_219 Y_219 _ _  hR hP hD hS ls (lv_sub hl [0, 2, 3] rfl)
            · exact (fuel0 hfu c_28).elim
          | succ nf ih =>
            intro x1_219 x4_219 S_219 Y_219 H7 locs hfu hR hP hD hS ls hl
            rw [f6_digest_L219] at hR
            refine lv_iload hx hb dX6_digest_219 (lv_at hl 1 rfl) ?_
            refine lv_iconst (v := (3 : Int32)) hx hb dX6_digest_221 (by decide) ?_
            refine lv_icmp_ge (tgt := 298) hx hb dX6_digest_222 (by decide) (fun c_29 => ?_) (fun c_29 => ?_)
            · rw [if_pos c_29] at hR
              exact hk x1_219 S_219 Y_219 _ _  hR hP hD hS ls (lv_sub hl [0, 2, 3] rfl)
            · rw [if_neg c_29] at hR
              have hfu := fuelS hfu c_29
              refine lv_ldc2 (v := (31 : Int64)) hx hb hown (hw_ hts 2 rfl) dX6_digest_225 ?_
              refine lv_lload_n hx hb dX6_digest_228 rfl (lv_at hl 0 rfl) ?_
              refine lv_lmul hx hb dX6_digest_229 ?_
              refine lv_aload_n hx hb dX6_digest_230 rfl (lv_at hl 3 rfl) ?_
              refine va_get (D := (dC, dI)) (ci := 6) (v := .ref (aN 0)) (C := RX6) (T := TX6) (N := 7) hx hb hts hin6 hown hK hP 0 rfl rfl 0 (by decide) (hw_ hts 3 rfl) (fun _ h9 => h9) rfl dX6_digest_231 ?_
              refine va_get (D := (dC, dI)) (ci := 5) (v := .ref (aN 11)) (C := RX5) (T := TX5) (N := 12) hx hb hts hin5 hown hK hP 1 rfl rfl 11 (by decide) (hw_ hts 8 rfl) (fun _ h9 => h9) rfl dX6_digest_234 ?_
              refine lv_iload_n hx hb dX6_digest_237 rfl (lv_at hl 2 rfl) ?_
              refine lv_iload hx hb dX6_digest_238 (lv_at hl 1 rfl) ?_
              refine va_calli (va_runS (As := [.int x3_180, .int x4_219]) (rest := [.ref (aN 11), .long ((31 : Int64) * x1_219)]) ⟨hx, hb, hml, hown, hts⟩ (met_X6_cellOf l dC dI cI cZ cS H7.size x3_180 x4_219) (va_cwS 2 hts gX6_digest_X6_cellOf rfl rfl rfl (by decide +kernel) ⟨Nat.le_of_ble_eq_true rfl, Nat.le_of_ble_eq_true rfl⟩) (pS (wc := []) hK hP hD hN [] rfl (by decide)) rfl rfl hl.1 rfl (lv_room (Nat.le_of_ble_eq_true rfl)) dX6_digest_240 ⟨Nat.zero_le _, Nat.zero_le _⟩) hS (fun q _ h => a0_in hS hA q h) (a0_in hS hA) (fun r30 u t H8 locs ht hvm hw hB hz1 hk1 hS => ?_)
              subst hw
              have hP := rdk hP hk1
              refine va_calli (va_runS (As := [.ref (aN 11), .int (f6_cellOf x3_180 x4_219)]) (rest := [.long ((31 : Int64) * x1_219)]) ⟨hx, hb, hml, hown, hts⟩ (met_X6_at l dC dI cI cZ cS (aN 11) 84 (by decide) (S_219 11) H8.size (f6_cellOf x3_180 x4_219)) (va_cwS 2 hts gX6_digest_X6_at rfl rfl rfl (by decide +kernel) ⟨Nat.le_of_ble_eq_true rfl, Nat.le_of_ble_eq_true rfl⟩) (pS (wc := [((aN 11), .inl (cI, 84, .inl (S_219 11)))]) hK hP hD hN [11] rfl (by decide)) rfl rfl hl.1 rfl (lv_room (Nat.le_of_ble_eq_true rfl)) dX6_digest_243 ⟨Nat.zero_le _, Nat.zero_le _⟩) hS (fun q _ h => a0_in hS hA q h) (a0_in hS hA) (fun r31 u t H9 locs ht hvm hw hB hz1 hk1 hS => ?_)
              subst hw
              have hP := rdk hP hk1
              refine lv_i2l (v := ((f6_at 84 (S_219 11) (f6_cellOf x3_180 x4_219))).toInt64) hx hb dX6_digest_246 rfl ?_
              refine lv_ladd hx hb dX6_digest_247 ?_
              refine lv_topl (fun v32 hv32 => ?_)
              have hR := bd_n hv32 hR
              refine lv_lstore_n (lv' := [(1, .long v32), (4, .int x4_219), (3, .int x3_180), (0, .ref (aF 0))]) hx hb dX6_digest_248 rfl hl (by decide) rfl (fun ls hl => ?_)
              refine lv_ldc2 (v := (31 : Int64)) hx hb hown (hw_ hts 2 rfl) dX6_digest_249 ?_
              refine lv_lload_n hx hb dX6_digest_252 rfl (lv_at hl 0 rfl) ?_
              refine lv_lmul hx hb dX6_digest_253 ?_
              refine lv_aload_n hx hb dX6_digest_254 rfl (lv_at hl 3 rfl) ?_
              refine va_get (D := (dC, dI)) (ci := 6) (v := .ref (aL 0)) (C := RX6) (T := TX6) (N := 7) hx hb hts hin6 hown hK hP 0 rfl rfl 2 (by decide) (hw_ hts 9 rfl) (fun _ h9 => h9) rfl dX6_digest_255 ?_
              refine lv_aload_n hx hb dX6_digest_258 rfl (lv_at hl 3 rfl) ?_
              refine va_get (D := (dC, dI)) (ci := 6) (v := .ref (aN 0)) (C := RX6) (T := TX6) (N := 7) hx hb hts hin6 hown hK hP 0 rfl rfl 0 (by decide) (hw_ hts 3 rfl) (fun _ h9 => h9) rfl dX6_digest_259 ?_
              refine lv_iload_n hx hb dX6_digest_262 rfl (lv_at hl 2 rfl) ?_
              refine lv_iload hx hb dX6_digest_263 (lv_at hl 1 rfl) ?_
              refine va_calli (va_runS (As := [.int x3_180, .int x4_219]) (rest := [.ref (aN 0), .ref (aL 0), .long ((31 : Int64) * v32)]) ⟨hx, hb, hml, hown, hts⟩ (met_X6_cellOf l dC dI cI cZ cS H9.size x3_180 x4_219) (va_cwS 2 hts gX6_digest_X6_cellOf rfl rfl rfl (by decide +kernel) ⟨Nat.le_of_ble_eq_true rfl, Nat.le_of_ble_eq_true rfl⟩) (pS (wc := []) hK hP hD hN [] rfl (by decide)) rfl rfl hl.1 rfl (lv_room (Nat.le_of_ble_eq_true rfl)) dX6_digest_265 ⟨Nat.zero_le _, Nat.zero_le _⟩) hS (fun q _ h => a0_in hS hA q h) (a0_in hS hA) (fun r33 u t H10 locs ht hvm hw hB hz1 hk1 hS => ?_)
              subst hw
              have hP := rdk hP hk1
              have hF := va_free (wc := wLo cI aL Y_219 ++ (wSt cI aN S_219)) hD hS hA [12, 13, 14, 1, 2, 3, 4, 5, 6, 7, 8, 9, 10, 11] rfl
              refine va_calli (va_runV (As := [.ref (aN 0), .int (f6_cellOf x3_180 x4_219)]) (rest := [.long ((31 : Int64) * v32)]) ⟨hx, hb, hml, hown, hts⟩ (met_X1_sourceDay l dC dI cI cZ cS aL aN Y_219 S_219 H10.size (f6_cellOf x3_180 x4_219)) (cwV 2 hts gX6_digest_X1_sourceDay rfl rfl rfl (by decide +kernel) ⟨Nat.le_of_ble_eq_true rfl, Nat.le_of_ble_eq_true rfl⟩) (pV (wc := wLo cI aL Y_219 ++ (wSt cI aN S_219)) (ci := 1) (q0 := 12) hK hP hD hN [12, 13, 14, 1, 2, 3, 4, 5, 6, 7, 8, 9, 10, 11] rfl (by decide) rfl rfl) rfl rfl hl.1 rfl (lv_room (Nat.le_of_ble_eq_true rfl)) dX6_digest_268 ⟨Nat.zero_le _, Nat.zero_le _⟩) hS (fun q _ h => hF q h) hF (fun r34 u35 t H11 locs ht hvm hw hB hz1 hk1 hS => ?_)
              try dsimp only at hw hB
              rw [ht] at hB
              have hR := bd2_n hw hR
              have hP := wrk2 (w2 := wFm aF aN aT aL aO aH aP aX ++ (wSt cI aN S_219 ++ (wLo cI aL u35 ++ (wOu aO aN aL ++ (wHi cS aH ah G ++ (wSn cI cZ aP N ++ (wTx cI aX T))))))) (wr := wFm aF aN aT aL aO aH aP aX ++ (wOu aO aN aL ++ (wHi cS aH ah G ++ (wSn cI cZ aP N ++ (wTx cI aX T))))) hP hD [12, 13, 14, 1, 2, 3, 4, 5, 6, 7, 8, 9, 10, 11] [0, 15, 16, 17, 18, 19, 20, 21, 22] rfl rfl (by decide) hk1 hB [0, 12, 13, 14, 15, 16, 17, 18, 19, 20, 21, 22, 9, 10, 11, 1, 2, 3, 4, 5, 6, 7, 8] rfl
              have hD := D_addr (w1 := wFm aF aN aT aL aO aH aP aX ++ (wSt cI aN S_219 ++ (wLo cI aL u35 ++ (wOu aO aN aL ++ (wHi cS aH ah G ++ (wSn cI cZ aP N ++ (wTx cI aX T))))))) hD rfl
              refine lv_i2l (v := (r34).toInt64) hx hb dX6_digest_271 rfl ?_
              refine lv_ladd hx hb dX6_digest_272 ?_
              refine lv_topl (fun v36 hv36 => ?_)
              have hR := bd_n hv36 hR
              refine lv_lstore_n (lv' := [(1, .long v36), (4, .int x4_219), (3, .int x3_180), (0, .ref (aF 0))]) hx hb dX6_digest_273 rfl hl (by decide) rfl (fun ls hl => ?_)
              refine lv_ldc2 (v := (31 : Int64)) hx hb hown (hw_ hts 2 rfl) dX6_digest_274 ?_
              refine lv_lload_n hx hb dX6_digest_277 rfl (lv_at hl 0 rfl) ?_
              refine lv_lmul hx hb dX6_digest_278 ?_
              refine lv_aload_n hx hb dX6_digest_279 rfl (lv_at hl 3 rfl) ?_
              refine va_get (D := (dC, dI)) (ci := 6) (v := .ref (aO 0)) (C := RX6) (T := TX6) (N := 7) hx hb hts hin6 hown hK hP 0 rfl rfl 3 (by decide) (hw_ hts 6 rfl) (fun _ h9 => h9) rfl dX6_digest_280 ?_
              refine lv_iload_n hx hb dX6_digest_283 rfl (lv_at hl 2 rfl) ?_
              refine lv_iload hx hb dX6_digest_284 (lv_at hl 1 rfl) ?_
              obtain ⟨r37, u38, u39, hc40, hR⟩ := ob3_e hR
              have hF := va_free (wc := wOu aO aN aL ++ (wLo cI aL u35 ++ (wSt cI aN S_219))) hD hS hA [15, 12, 13, 14, 1, 2, 3, 4, 5, 6, 7, 8, 9, 10, 11] rfl
              refine va_calli (va_runV (As := [.int x3_180, .int x4_219]) (rest := [.long ((31 : Int64) * v36)]) ⟨hx, hb, hml, hown, hts⟩ (met_X2_bestDish l dC dI cI cZ cS aO aL aN u35 S_219 H11.size x3_180 x4_219 (r37, u38, u39) hc40) (cwV 2 hts gX6_digest_X2_bestDish rfl rfl rfl (by decide +kernel) ⟨Nat.le_of_ble_eq_true rfl, Nat.le_of_ble_eq_true rfl⟩) (pV (wc := wOu aO aN aL ++ (wLo cI aL u35 ++ (wSt cI aN S_219))) (ci := 2) (q0 := 15) hK hP hD hN [15, 12, 13, 14, 1, 2, 3, 4, 5, 6, 7, 8, 9, 10, 11] rfl (by decide) rfl rfl) rfl rfl hl.1 rfl (lv_room (Nat.le_of_ble_eq_true rfl)) dX6_digest_286 ⟨Nat.zero_le _, Nat.zero_le _⟩) hS (fun q _ h => hF q h) hF (fun r37 u t H12 locs ht hvm hw hB hz1 hk1 hS => ?_)
              obtain ⟨u38, u39⟩ := u
              try dsimp only at hw hB
              rw [ht] at hB
              cases hw
              have hP := wrk2 (w2 := wFm aF aN aT aL aO aH aP aX ++ (wSt cI aN u39 ++ (wLo cI aL u38 ++ (wOu aO aN aL ++ (wHi cS aH ah G ++ (wSn cI cZ aP N ++ (wTx cI aX T))))))) (wr := wFm aF aN aT aL aO aH aP aX ++ (wHi cS aH ah G ++ (wSn cI cZ aP N ++ (wTx cI aX T)))) hP hD [15, 12, 13, 14, 1, 2, 3, 4, 5, 6, 7, 8, 9, 10, 11] [0, 16, 17, 18, 19, 20, 21, 22] rfl rfl (by decide) hk1 hB [0, 12, 13, 14, 15, 16, 17, 18, 19, 20, 21, 22, 9, 10, 11, 8, 1, 2, 3, 4, 5, 6, 7] rfl
              have hD := D_addr (w1 := wFm aF aN aT aL aO aH aP aX ++ (wSt cI aN u39 ++ (wLo cI aL u38 ++ (wOu aO aN aL ++ (wHi cS aH ah G ++ (wSn cI cZ aP N ++ (wTx cI aX T))))))) hD rfl
              refine lv_i2l (v := (r37).toInt64) hx hb dX6_digest_289 rfl ?_
              refine lv_ladd hx hb dX6_digest_290 ?_
              refine lv_topl (fun v41 hv41 => ?_)
              have hR := bd_n hv41 hR
              refine lv_lstore_n (lv' := [(1, .long v41), (4, .int x4_219), (3, .int x3_180), (0, .ref (aF 0))]) hx hb dX6_digest_291 rfl hl (by decide) rfl (fun ls hl => ?_)
              refine lv_iinc (v := (x4_219 + 1)) (lv' := [(4, .int (x4_219 + 1)), (1, .long v41), (3, .int x3_180), (0, .ref (aF 0))]) hx hb dX6_digest_292 hl (k := 1) rfl rfl (by decide) rfl (fun ls hl => ?_)
              refine lv_goto (tgt := 219) hx hb dX6_digest_295 (by decide) ?_
              exact ih v41 (x4_219 + 1) u39 u38 _ _ hfu hR hP hD hS ls (lv_sub hl [1, 0, 2, 3] rfl)
        refine LOOP219 (fun x1_219 S_219 Y_219 => (f6_digest_L180  nf x1_219 (x3_180 + 1) S_219 Y_219 k)) (fun x1_219 S_219 Y_219 H7 locs hR hP hD hS ls hl => ?_) 3 x1_189 (0 : Int32) S_180 Y_180 _ _ (by decide) hR hP hD hS ls (lv_sub hl [1, 0, 2, 3] rfl)
        try dsimp only at hR
        refine lv_iinc (v := (x3_180 + 1)) (lv' := [(3, .int (x3_180 + 1)), (1, .long x1_219), (0, .ref (aF 0))]) hx hb dX6_digest_298 hl (k := 1) rfl rfl (by decide) rfl (fun ls hl => ?_)
        refine lv_goto (tgt := 180) hx hb dX6_digest_301 (by decide) ?_
        exact ih x1_219 (x3_180 + 1) S_219 Y_219 _ _ hfu hR hP hD hS ls (lv_sub hl [1, 0, 2] rfl)
  refine LOOP180 (fun x1_180 S_180 Y_180 => (ob2 (f6_usedShare S_180 Y_180) (fun r42 u43 => (ob1 (f6_bitsOfShare r42) (fun r45 => (bd (((31 : Int64) * x1_180) + r45) (fun v47 => (bd (((31 : Int64) * v47) + (((T 1) 0)).toInt64) (fun v48 => (f6_digest_L335 T (fuelN (0 : Int32) ((T 1) 0)) v48 (0 : Int32) (fun x1_335 => (some (x1_335, S_180, u43))))))))))))) (fun x1_180 S_180 Y_180 H5 locs hR hP hD hS ls hl => ?_) 28 x1_131 (0 : Int32) S_65 Y_65 _ _ (by decide) hR hP hD hS ls (lv_sub hl [1, 0, 2] rfl)
  try dsimp only at hR
  refine lv_ldc2 (v := (31 : Int64)) hx hb hown (hw_ hts 2 rfl) dX6_digest_304 ?_
  refine lv_lload_n hx hb dX6_digest_307 rfl (lv_at hl 0 rfl) ?_
  refine lv_lmul hx hb dX6_digest_308 ?_
  refine lv_aload_n hx hb dX6_digest_309 rfl (lv_at hl 1 rfl) ?_
  obtain ⟨r42, u43, hc44, hR⟩ := ob2_e hR
  have hF := va_free (wc := wFm aF aN aT aL aO aH aP aX ++ (wSt cI aN S_180 ++ (wLo cI aL Y_180))) hD hS hA [0, 1, 2, 3, 4, 5, 6, 7, 8, 9, 10, 11, 12, 13, 14] rfl
  refine va_calld (va_runV (As := []) (rest := [.long ((31 : Int64) * x1_180)]) ⟨hx, hb, hml, hown, hts⟩ (met_X6_usedShare l dC dI cI cZ cS aF aN aT aL aO aH ah aP aX S_180 Y_180 H5.size (r42, u43) hc44) (cwV 0 hts gX6_digest_X6_usedShare rfl rfl rfl (by decide +kernel) ⟨Nat.le_of_ble_eq_true rfl, Nat.le_of_ble_eq_true rfl⟩) (pV (wc := wFm aF aN aT aL aO aH aP aX ++ (wSt cI aN S_180 ++ (wLo cI aL Y_180))) (ci := 6) (q0 := 0) hK hP hD hN [0, 1, 2, 3, 4, 5, 6, 7, 8, 9, 10, 11, 12, 13, 14] rfl (by decide) rfl rfl) rfl rfl hl.1 rfl (lv_room (Nat.le_of_ble_eq_true rfl)) dX6_digest_310 ⟨Nat.zero_le _, Nat.zero_le _⟩) hS (fun q _ h => hF q h) hF (fun r42 u43 t H6 locs ht hvm hw hB hz1 hk1 hS => ?_)
  try dsimp only at hw hB
  rw [ht] at hB
  cases hw
  have hP := wrk2 (w2 := wFm aF aN aT aL aO aH aP aX ++ (wSt cI aN S_180 ++ (wLo cI aL u43 ++ (wOu aO aN aL ++ (wHi cS aH ah G ++ (wSn cI cZ aP N ++ (wTx cI aX T))))))) (wr := wOu aO aN aL ++ (wHi cS aH ah G ++ (wSn cI cZ aP N ++ (wTx cI aX T)))) hP hD [0, 1, 2, 3, 4, 5, 6, 7, 8, 9, 10, 11, 12, 13, 14] [15, 16, 17, 18, 19, 20, 21, 22] rfl rfl (by decide) hk1 hB [8, 9, 10, 11, 12, 13, 14, 15, 16, 17, 18, 19, 20, 21, 22, 0, 1, 2, 3, 4, 5, 6, 7] rfl
  have hD := D_addr (w1 := wFm aF aN aT aL aO aH aP aX ++ (wSt cI aN S_180 ++ (wLo cI aL u43 ++ (wOu aO aN aL ++ (wHi cS aH ah G ++ (wSn cI cZ aP N ++ (wTx cI aX T))))))) hD rfl
  obtain ⟨r45, hc46, hR⟩ := ob1_e hR
  refine va_calll (va_runS (As := [.double r42]) (rest := [.long ((31 : Int64) * x1_180)]) ⟨hx, hb, hml, hown, hts⟩ (met_X6_bitsOfShare l dC dI cI cZ cS H6.size r42 r45 hc46) (va_cwS 1 hts gX6_digest_X6_bitsOfShare rfl rfl rfl (by decide +kernel) ⟨Nat.le_of_ble_eq_true rfl, Nat.le_of_ble_eq_true rfl⟩) (pS (wc := []) hK hP hD hN [] rfl (by decide)) rfl rfl hl.1 rfl (lv_room (Nat.le_of_ble_eq_true rfl)) dX6_digest_313 ⟨Nat.zero_le _, Nat.zero_le _⟩) hS (fun q _ h => a0_in hS hA q h) (a0_in hS hA) (fun r45 u t H7 locs ht hvm hw hB hz1 hk1 hS => ?_)
  cases hw
  have hP := rdk hP hk1
  refine lv_ladd hx hb dX6_digest_316 ?_
  refine lv_topl (fun v47 hv47 => ?_)
  have hR := bd_n hv47 hR
  refine lv_lstore_n (lv' := [(1, .long v47), (0, .ref (aF 0))]) hx hb dX6_digest_317 rfl hl (by decide) rfl (fun ls hl => ?_)
  refine lv_ldc2 (v := (31 : Int64)) hx hb hown (hw_ hts 2 rfl) dX6_digest_318 ?_
  refine lv_lload_n hx hb dX6_digest_321 rfl (lv_at hl 0 rfl) ?_
  refine lv_lmul hx hb dX6_digest_322 ?_
  refine lv_aload_n hx hb dX6_digest_323 rfl (lv_at hl 1 rfl) ?_
  refine va_get (D := (dC, dI)) (ci := 6) (v := .ref (aX 0)) (C := RX6) (T := TX6) (N := 7) hx hb hts hin6 hown hK hP 0 rfl rfl 6 (by decide) (hw_ hts 10 rfl) (fun _ h9 => h9) rfl dX6_digest_324 ?_
  refine va_get (D := (dC, dI)) (ci := 3) (v := .int ((T 1) 0)) (C := RX3) (T := TX3) (N := 2) hx hb hts hin3 hown hK hP 21 rfl rfl 1 (by decide) (hw_ hts 11 rfl) (fun _ h9 => h9) rfl dX6_digest_327 ?_
  refine lv_i2l (v := (((T 1) 0)).toInt64) hx hb dX6_digest_330 rfl ?_
  refine lv_ladd hx hb dX6_digest_331 ?_
  refine lv_topl (fun v48 hv48 => ?_)
  have hR := bd_n hv48 hR
  refine lv_lstore_n (lv' := [(1, .long v48), (0, .ref (aF 0))]) hx hb dX6_digest_332 rfl hl (by decide) rfl (fun ls hl => ?_)
  refine lv_iconst (v := (0 : Int32)) hx hb dX6_digest_333 (by decide) ?_
  refine lv_istore_n (lv' := [(3, .int (0 : Int32)), (1, .long v48), (0, .ref (aF 0))]) hx hb dX6_digest_334 rfl hl (by decide) rfl (fun ls hl => ?_)
  have LOOP335 : ∀ (k : Int64 → (Option (Int64 × Pic × Pic))), (∀ (x1_335 : Int64) (H8 : Heap) (locs : List Loc), k x1_335 = some res → va_P (dC, dI) vwCl (wFm aF aN aT aL aO aH aP aX ++ (wSt cI aN S_180 ++ (wLo cI aL u43 ++ (wOu aO aN aL ++ (wHi cS aH ah G ++ (wSn cI cZ aP N ++ (wTx cI aX T))))))) H8 → va_D A (wFm aF aN aT aL aO aH aP aX ++ (wSt cI aN S_180 ++ (wLo cI aL u43 ++ (wOu aO aN aL ++ (wHi cS aH ah G ++ (wSn cI cZ aP N ++ (wTx cI aX T))))))) → va_S A s.heap H8 locs → ∀ (ls : Array Slot), lv_has ls 5 [(1, .long x1_335)] → W p l e (headSpec wsX6_digest rm_X6_digest).room s m ([.ref (aF 0)] : List Value).toArray below meth c H8 locs 0 0 (MQ below (q_X6_digest dC dI cI cZ cS aF aN aT aL aO aH ah aP aX G N T res A) ([.ref (aF 0)] : List Value).toArray s 0 0 A) (F0 m 371 ls [])) → ∀ (nf : Nat) (x1_335 : Int64) (x3_335 : Int32) (H8 : Heap) (locs : List Loc), (((T 1) 0)).toInt - (x3_335).toInt ≤ (nf : Int) → f6_digest_L335 T nf x1_335 x3_335 k = some res → va_P (dC, dI) vwCl (wFm aF aN aT aL aO aH aP aX ++ (wSt cI aN S_180 ++ (wLo cI aL u43 ++ (wOu aO aN aL ++ (wHi cS aH ah G ++ (wSn cI cZ aP N ++ (wTx cI aX T))))))) H8 → va_D A (wFm aF aN aT aL aO aH aP aX ++ (wSt cI aN S_180 ++ (wLo cI aL u43 ++ (wOu aO aN aL ++ (wHi cS aH ah G ++ (wSn cI cZ aP N ++ (wTx cI aX T))))))) → va_S A s.heap H8 locs → ∀ (ls : Array Slot), lv_has ls 5 [(1, .long x1_335), (3, .int x3_335), (0, .ref (aF 0))] → W p l e (headSpec wsX6_digest rm_X6_digest).room s m ([.ref (aF 0)] : List Value).toArray below meth c H8 locs 0 0 (MQ below (q_X6_digest dC dI cI cZ cS aF aN aT aL aO aH ah aP aX G N T res A) ([.ref (aF 0)] : List Value).toArray s 0 0 A) (F0 m 335 ls []) := by
    intro k hk nf
    induction nf with
    | zero =>
      intro x1_335 x3_335 H8 locs hfu hR hP hD hS ls hl
      rw [f6_digest_L335] at hR
      refine lv_iload_n hx hb dX6_digest_335 rfl (lv_at hl 1 rfl) ?_
      refine lv_aload_n hx hb dX6_digest_336 rfl (lv_at hl 2 rfl) ?_
      refine va_get (D := (dC, dI)) (ci := 6) (v := .ref (aX 0)) (C := RX6) (T := TX6) (N := 7) hx hb hts hin6 hown hK hP 0 rfl rfl 6 (by decide) (hw_ hts 10 rfl) (fun _ h9 => h9) rfl dX6_digest_337 ?_
      refine va_get (D := (dC, dI)) (ci := 3) (v := .int ((T 1) 0)) (C := RX3) (T := TX3) (N := 2) hx hb hts hin3 hown hK hP 21 rfl rfl 1 (by decide) (hw_ hts 11 rfl) (fun _ h9 => h9) rfl dX6_digest_340 ?_
      refine lv_icmp_ge (tgt := 371) hx hb dX6_digest_343 (by decide) (fun c_49 => ?_) (fun c_49 => ?_)
      · skip
        exact hk x1_335 _ _  hR hP hD hS ls (lv_sub hl [0] rfl)
      · exact (fuel0 hfu c_49).elim
    | succ nf ih =>
      intro x1_335 x3_335 H8 locs hfu hR hP hD hS ls hl
      rw [f6_digest_L335] at hR
      refine lv_iload_n hx hb dX6_digest_335 rfl (lv_at hl 1 rfl) ?_
      refine lv_aload_n hx hb dX6_digest_336 rfl (lv_at hl 2 rfl) ?_
      refine va_get (D := (dC, dI)) (ci := 6) (v := .ref (aX 0)) (C := RX6) (T := TX6) (N := 7) hx hb hts hin6 hown hK hP 0 rfl rfl 6 (by decide) (hw_ hts 10 rfl) (fun _ h9 => h9) rfl dX6_digest_337 ?_
      refine va_get (D := (dC, dI)) (ci := 3) (v := .int ((T 1) 0)) (C := RX3) (T := TX3) (N := 2) hx hb hts hin3 hown hK hP 21 rfl rfl 1 (by decide) (hw_ hts 11 rfl) (fun _ h9 => h9) rfl dX6_digest_340 ?_
      refine lv_icmp_ge (tgt := 371) hx hb dX6_digest_343 (by decide) (fun c_50 => ?_) (fun c_50 => ?_)
      · rw [if_pos c_50] at hR
        exact hk x1_335 _ _  hR hP hD hS ls (lv_sub hl [0] rfl)
      · rw [if_neg c_50] at hR
        have hfu := fuelS hfu c_50
        refine lv_ldc2 (v := (31 : Int64)) hx hb hown (hw_ hts 2 rfl) dX6_digest_346 ?_
        refine lv_lload_n hx hb dX6_digest_349 rfl (lv_at hl 0 rfl) ?_
        refine lv_lmul hx hb dX6_digest_350 ?_
        refine lv_aload_n hx hb dX6_digest_351 rfl (lv_at hl 2 rfl) ?_
        refine va_get (D := (dC, dI)) (ci := 6) (v := .ref (aX 0)) (C := RX6) (T := TX6) (N := 7) hx hb hts hin6 hown hK hP 0 rfl rfl 6 (by decide) (hw_ hts 10 rfl) (fun _ h9 => h9) rfl dX6_digest_352 ?_
        refine va_get (D := (dC, dI)) (ci := 3) (v := .ref (aX 1)) (C := RX3) (T := TX3) (N := 2) hx hb hts hin3 hown hK hP 21 rfl rfl 0 (by decide) (hw_ hts 12 rfl) (fun _ h9 => h9) rfl dX6_digest_355 ?_
        refine lv_iload_n hx hb dX6_digest_358 rfl (lv_at hl 1 rfl) ?_
        refine va_calli (va_runS (As := [.ref (aX 1), .int x3_335]) (rest := [.long ((31 : Int64) * x1_335)]) ⟨hx, hb, hml, hown, hts⟩ (met_X6_at l dC dI cI cZ cS (aX 1) 60 (by decide) (T 0) H8.size x3_335) (va_cwS 2 hts gX6_digest_X6_at rfl rfl rfl (by decide +kernel) ⟨Nat.le_of_ble_eq_true rfl, Nat.le_of_ble_eq_true rfl⟩) (pS (wc := [((aX 1), .inl (cI, 60, .inl (T 0)))]) hK hP hD hN [22] rfl (by decide)) rfl rfl hl.1 rfl (lv_room (Nat.le_of_ble_eq_true rfl)) dX6_digest_359 ⟨Nat.zero_le _, Nat.zero_le _⟩) hS (fun q _ h => a0_in hS hA q h) (a0_in hS hA) (fun r51 u t H9 locs ht hvm hw hB hz1 hk1 hS => ?_)
        subst hw
        have hP := rdk hP hk1
        refine lv_i2l (v := ((f6_at 60 (T 0) x3_335)).toInt64) hx hb dX6_digest_362 rfl ?_
        refine lv_ladd hx hb dX6_digest_363 ?_
        refine lv_topl (fun v52 hv52 => ?_)
        have hR := bd_n hv52 hR
        refine lv_lstore_n (lv' := [(1, .long v52), (3, .int x3_335), (0, .ref (aF 0))]) hx hb dX6_digest_364 rfl hl (by decide) rfl (fun ls hl => ?_)
        refine lv_iinc (v := (x3_335 + 1)) (lv' := [(3, .int (x3_335 + 1)), (1, .long v52), (0, .ref (aF 0))]) hx hb dX6_digest_365 hl (k := 1) rfl rfl (by decide) rfl (fun ls hl => ?_)
        refine lv_goto (tgt := 335) hx hb dX6_digest_368 (by decide) ?_
        exact ih v52 (x3_335 + 1) _ _ hfu hR hP hD hS ls (lv_sub hl [1, 0, 2] rfl)
  refine LOOP335 (fun x1_335 => (some (x1_335, S_180, u43))) (fun x1_335 H8 locs hR hP hD hS ls hl => ?_) (fuelN (0 : Int32) ((T 1) 0)) v48 (0 : Int32) _ _ (fuelE _ _) hR hP hD hS ls (lv_sub hl [1, 0, 2] rfl)
  try dsimp only at hR
  refine lv_lload_n hx hb dX6_digest_371 rfl (lv_at hl 0 rfl) ?_
  exact W.lret (v := x1_335) hx hb hr (fun t ht hW => ⟨⟨x1_335, (S_180, u43), rfl, Option.some.inj hR, P_at ht hP⟩, hS.F ht⟩) hS.2.2 dX6_digest_372
