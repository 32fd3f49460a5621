abbrev rm_X2_sameTasteBefore : Room := { frames := 1, cells := 0, slots := 0, locals := 21 }
abbrev q_X2_sameTasteBefore (dC : Nat → ClassId) (dI : Nat → Nat → Nat) (cI cZ cS : ClassId) (aO : Nat → Nat) (aL : Nat → Nat) (aS : Nat → Nat)  (res : Int32) (A : Nat → Prop) : Array Value → State → Outcome → State → Prop := va_Qi (fun (r : Int32) (u : Unit) => r = res) (fun _ _ => True) A
set_option maxHeartbeats 4000000 in
set_option maxRecDepth 100000 in
theorem met_X2_sameTasteBefore (l : Launch) (dC : Nat → ClassId) (dI : Nat → Nat → Nat) (cI cZ cS : ClassId) (aO : Nat → Nat) (aL : Nat → Nat) (aS : Nat → Nat) (Y : Pic) (S : Pic) (sz : Nat) (p1 : Int32) (p2 : Int32) : Met l yX2_sameTasteBefore wsX2_sameTasteBefore rm_X2_sameTasteBefore (va_Pc [.ref (aO 0), .int p1, .int p2] (pW (dC, dI) (tyS cI cZ cS) (wOu aO aS aL ++ (wLo cI aL Y ++ (wSt cI aS S))) sz)) (q_X2_sameTasteBefore dC dI cI cZ cS aO aL aS (f2_sameTasteBefore S p1 p2) (a0 sz)) 0 0 (a0 sz) := by
  refine Met.ofW (cc := cX2_sameTasteBefore) (maxL := 9) (ret := (some .int)) (by decide) rfl ?_
  intro p e s m args below meth c s₁ B hml hv
  obtain ⟨rfl, hsz, hP, hK, hD0, hN⟩ := hv
  have hx := B.exec
  have hb := B.bytes
  have hr := B.returns
  have hts := atoms_spec (ws := wsX2_sameTasteBefore) B.pre
  have hown : s.vm.findClass RX2 = some m.cls := findClass_of_methodNamed B.named
  have hlocks := B.notSynchronized
  subst hsz
  have hD := hD0
  have hA : ∀ q : Nat, s.heap.size ≤ q → a0 s.heap.size q := fun q h => Or.inr h
  have hS : va_S (a0 s.heap.size) s.heap s.heap [] := va_S.rf
  have hP : va_P (dC, dI) vwCl (wOu aO aS aL ++ (wLo cI aL Y ++ (wSt cI aS S))) s.heap := hP
  generalize hR : f2_sameTasteBefore S p1 p2 = res
  rw [f2_sameTasteBefore] at hR
  have hin2 : ∀ w ∈ wsX20, w ∈ wsX2_sameTasteBefore := by decide +kernel
  have hin5 : ∀ w ∈ wsX50, w ∈ wsX2_sameTasteBefore := by decide +kernel
  have hl := lv_entry ([.ref (aO 0), .int p1, .int p2]) (n := 9) (Nat.le_of_ble_eq_true rfl)
  rw [lg_entry_eq]
  generalize (lg_sl ([.ref (aO 0), .int p1, .int p2]) ++ List.replicate (9 - (lg_sl ([.ref (aO 0), .int p1, .int p2])).length) Slot.unset).toArray = ls at hl ⊢
  have hl : lv_has ls 9 [(0, .ref (aO 0)), (1, .int p1), (2, .int p2)] := hl
  refine lv_aload_n hx hb dX2_sameTasteBefore_0 rfl (lv_at hl 0 rfl) ?_
  refine va_get (D := (dC, dI)) (ci := 2) (v := .ref (aS 0)) (C := RX2) (T := TX2) (N := 2) hx hb hts hin2 hown hK hP 0 rfl rfl 0 (by decide) (hw_ hts 1 rfl) (fun _ h9 => h9) rfl dX2_sameTasteBefore_1 ?_
  refine va_get (D := (dC, dI)) (ci := 5) (v := .ref (aS 3)) (C := RX5) (T := TX5) (N := 12) hx hb hts hin5 hown hK hP 4 rfl rfl 3 (by decide) (hw_ hts 2 rfl) (fun _ h9 => h9) rfl dX2_sameTasteBefore_4 ?_
  refine lv_iload_n hx hb dX2_sameTasteBefore_7 rfl (lv_at hl 2 rfl) ?_
  refine va_calli (va_runSN (As := [.ref (aS 3), .int p2]) (rest := []) ⟨hx, hb, hml, hown, hts⟩ (met_X6_at l dC dI cI cZ cS (aS 3) 12 (by decide) (S 3) s.heap.size p2) ⟨va_cnB 2 hts ggX2_sameTasteBefore_X6_at rfl rfl rfl (hN_9 hN) (hw_ hts 10 rfl) (by decide +kernel) ⟨Nat.le_of_ble_eq_true rfl, Nat.le_of_ble_eq_true rfl⟩, (hw_ hts 9 rfl), trivial⟩ (pS (wc := [((aS 3), .inl (cI, 12, .inl (S 3)))]) hK hP hD hN [7] rfl (by decide)) rfl rfl hl.1 rfl (lv_room (Nat.le_of_ble_eq_true rfl)) dX2_sameTasteBefore_8 ⟨Nat.zero_le _, Nat.zero_le _⟩) hS (fun q _ h => a0_in hS hA q h) (a0_in hS hA) (fun r1 u t H1 locs ht hvm hw hB hz1 hk1 hS => ?_)
  subst hw
  have hP := rdk hP hk1
  refine lv_topi (fun v2 hv2 => ?_)
  have hR := bd_n hv2 hR
  refine lv_istore_n (lv' := [(3, .int v2), (0, .ref (aO 0)), (1, .int p1), (2, .int p2)]) hx hb dX2_sameTasteBefore_11 rfl hl (by decide) rfl (fun ls hl => ?_)
  refine lv_iconst (v := (0 : Int32)) hx hb dX2_sameTasteBefore_12 (by decide) ?_
  refine lv_iload_n hx hb dX2_sameTasteBefore_13 rfl (lv_at hl 2 rfl) ?_
  refine lv_aload_n hx hb dX2_sameTasteBefore_14 rfl (lv_at hl 1 rfl) ?_
  refine va_get (D := (dC, dI)) (ci := 2) (v := .ref (aS 0)) (C := RX2) (T := TX2) (N := 2) hx hb hts hin2 hown hK hP 0 rfl rfl 0 (by decide) (hw_ hts 1 rfl) (fun _ h9 => h9) rfl dX2_sameTasteBefore_15 ?_
  refine va_get (D := (dC, dI)) (ci := 5) (v := .ref (aS 10)) (C := RX5) (T := TX5) (N := 12) hx hb hts hin5 hown hK hP 4 rfl rfl 10 (by decide) (hw_ hts 3 rfl) (fun _ h9 => h9) rfl dX2_sameTasteBefore_18 ?_
  refine lv_iconst (v := (1 : Int32)) hx hb dX2_sameTasteBefore_21 (by decide) ?_
  refine va_calli (va_runSN (As := [.ref (aS 10), .int (1 : Int32)]) (rest := [.int p1, .int (0 : Int32)]) ⟨hx, hb, hml, hown, hts⟩ (met_X6_at l dC dI cI cZ cS (aS 10) 3 (by decide) (S 10) H1.size (1 : Int32)) ⟨va_cnB 2 hts ggX2_sameTasteBefore_X6_at rfl rfl rfl (hN_9 hN) (hw_ hts 10 rfl) (by decide +kernel) ⟨Nat.le_of_ble_eq_true rfl, Nat.le_of_ble_eq_true rfl⟩, (hw_ hts 9 rfl), trivial⟩ (pS (wc := [((aS 10), .inl (cI, 3, .inl (S 10)))]) hK hP hD hN [13] rfl (by decide)) rfl rfl hl.1 rfl (lv_room (Nat.le_of_ble_eq_true rfl)) dX2_sameTasteBefore_22 ⟨Nat.zero_le _, Nat.zero_le _⟩) hS (fun q _ h => a0_in hS hA q h) (a0_in hS hA) (fun r3 u t H2 locs ht hvm hw hB hz1 hk1 hS => ?_)
  subst hw
  have hP := rdk hP hk1
  refine lv_isub hx hb dX2_sameTasteBefore_25 ?_
  refine va_mmax hx hb (hml.trans hl.1.symm) hown (hw_ hts 4 rfl) (hw_ hts 5 rfl) (hw_ hts 6 rfl) (hw_ hts 7 rfl) (Nat.le_of_ble_eq_true rfl) (Nat.le_of_ble_eq_true rfl) (Nat.zero_le _) (Nat.zero_le _) dX2_sameTasteBefore_26 ?_
  refine lv_iconst (v := (0 : Int32)) hx hb dX2_sameTasteBefore_29 (by decide) ?_
  refine va_calli (va_runSN (As := [.int (if (0 : Int32) < (p1 - (f6_at 3 (S 10) (1 : Int32))) then (p1 - (f6_at 3 (S 10) (1 : Int32))) else (0 : Int32)), .int (0 : Int32)]) (rest := []) ⟨hx, hb, hml, hown, hts⟩ (met_X6_cellOf l dC dI cI cZ cS H2.size (if (0 : Int32) < (p1 - (f6_at 3 (S 10) (1 : Int32))) then (p1 - (f6_at 3 (S 10) (1 : Int32))) else (0 : Int32)) (0 : Int32)) ⟨va_cnB 2 hts ggX2_sameTasteBefore_X6_cellOf rfl rfl rfl (hN_8 hN) (hw_ hts 10 rfl) (by decide +kernel) ⟨Nat.le_of_ble_eq_true rfl, Nat.le_of_ble_eq_true rfl⟩, (hw_ hts 12 rfl), trivial⟩ (pS (wc := []) hK hP hD hN [] rfl (by decide)) rfl rfl hl.1 rfl (lv_room (Nat.le_of_ble_eq_true rfl)) dX2_sameTasteBefore_30 ⟨Nat.zero_le _, Nat.zero_le _⟩) hS (fun q _ h => a0_in hS hA q h) (a0_in hS hA) (fun r4 u t H3 locs ht hvm hw hB hz1 hk1 hS => ?_)
  subst hw
  have hP := rdk hP hk1
  refine lv_topi (fun v5 hv5 => ?_)
  have hR := bd_n hv5 hR
  refine lv_istore (lv' := [(4, .int v5), (3, .int v2), (0, .ref (aO 0)), (1, .int p1), (2, .int p2)]) hx hb dX2_sameTasteBefore_33 hl (by decide) rfl (fun ls hl => ?_)
  refine lv_iload_n hx hb dX2_sameTasteBefore_35 rfl (lv_at hl 3 rfl) ?_
  refine lv_iconst (v := (0 : Int32)) hx hb dX2_sameTasteBefore_36 (by decide) ?_
  refine va_calli (va_runSN (As := [.int p1, .int (0 : Int32)]) (rest := []) ⟨hx, hb, hml, hown, hts⟩ (met_X6_cellOf l dC dI cI cZ cS H3.size p1 (0 : Int32)) ⟨va_cnB 2 hts ggX2_sameTasteBefore_X6_cellOf rfl rfl rfl (hN_8 hN) (hw_ hts 10 rfl) (by decide +kernel) ⟨Nat.le_of_ble_eq_true rfl, Nat.le_of_ble_eq_true rfl⟩, (hw_ hts 12 rfl), trivial⟩ (pS (wc := []) hK hP hD hN [] rfl (by decide)) rfl rfl hl.1 rfl (lv_room (Nat.le_of_ble_eq_true rfl)) dX2_sameTasteBefore_37 ⟨Nat.zero_le _, Nat.zero_le _⟩) hS (fun q _ h => a0_in hS hA q h) (a0_in hS hA) (fun r6 u t H4 locs ht hvm hw hB hz1 hk1 hS => ?_)
  subst hw
  have hP := rdk hP hk1
  refine lv_topi (fun v7 hv7 => ?_)
  have hR := bd_n hv7 hR
  refine lv_istore (lv' := [(5, .int v7), (4, .int v5), (3, .int v2), (0, .ref (aO 0)), (1, .int p1), (2, .int p2)]) hx hb dX2_sameTasteBefore_40 hl (by decide) rfl (fun ls hl => ?_)
  refine lv_iconst (v := (0 : Int32)) hx hb dX2_sameTasteBefore_42 (by decide) ?_
  refine lv_istore (lv' := [(6, .int (0 : Int32)), (5, .int v7), (4, .int v5), (3, .int v2), (0, .ref (aO 0)), (1, .int p1), (2, .int p2)]) hx hb dX2_sameTasteBefore_43 hl (by decide) rfl (fun ls hl => ?_)
  refine lv_iload hx hb dX2_sameTasteBefore_45 (lv_at hl 2 rfl) ?_
  refine lv_istore (lv' := [(7, .int v5), (6, .int (0 : Int32)), (5, .int v7), (4, .int v5), (3, .int v2), (0, .ref (aO 0)), (1, .int p1), (2, .int p2)]) hx hb dX2_sameTasteBefore_47 hl (by decide) rfl (fun ls hl => ?_)
  have LOOP49 : ∀ (k : Int32 → Int32), (∀ (x6_49 : Int32) (H5 : Heap) (locs : List Loc), k x6_49 = res → va_P (dC, dI) vwCl (wOu aO aS aL ++ (wLo cI aL Y ++ (wSt cI aS S))) H5 → va_D (fun _ => True) (wOu aO aS aL ++ (wLo cI aL Y ++ (wSt cI aS S))) → va_S (a0 s.heap.size) s.heap H5 locs → ∀ (ls : Array Slot), lv_has ls 9 [(6, .int x6_49)] → W p l e (headSpec wsX2_sameTasteBefore rm_X2_sameTasteBefore).room s m ([.ref (aO 0), .int p1, .int p2] : List Value).toArray below meth c H5 locs 0 0 (MQ below (q_X2_sameTasteBefore dC dI cI cZ cS aO aL aS res (a0 s.heap.size)) ([.ref (aO 0), .int p1, .int p2] : List Value).toArray s 0 0 (a0 s.heap.size)) (F0 m 101 ls [])) → ∀ (nf : Nat) (x6_49 : Int32) (x7_49 : Int32) (H5 : Heap) (locs : List Loc), (v7).toInt - (x7_49).toInt ≤ (nf : Int) → f2_sameTasteBefore_L49 S v2 v7 nf x6_49 x7_49 k = res → va_P (dC, dI) vwCl (wOu aO aS aL ++ (wLo cI aL Y ++ (wSt cI aS S))) H5 → va_D (fun _ => True) (wOu aO aS aL ++ (wLo cI aL Y ++ (wSt cI aS S))) → va_S (a0 s.heap.size) s.heap H5 locs → ∀ (ls : Array Slot), lv_has ls 9 [(6, .int x6_49), (7, .int x7_49), (5, .int v7), (3, .int v2), (0, .ref (aO 0))] → W p l e (headSpec wsX2_sameTasteBefore rm_X2_sameTasteBefore).room s m ([.ref (aO 0), .int p1, .int p2] : List Value).toArray below meth c H5 locs 0 0 (MQ below (q_X2_sameTasteBefore dC dI cI cZ cS aO aL aS res (a0 s.heap.size)) ([.ref (aO 0), .int p1, .int p2] : List Value).toArray s 0 0 (a0 s.heap.size)) (F0 m 49 ls []) := by
    intro k hk nf
    induction nf with
    | zero =>
      intro x6_49 x7_49 H5 locs hfu hR hP hD hS ls hl
      rw [f2_sameTasteBefore_L49] at hR
      refine lv_iload hx hb dX2_sameTasteBefore_49 (lv_at hl 1 rfl) ?_
      refine lv_iload hx hb dX2_sameTasteBefore_51 (lv_at hl 2 rfl) ?_
      refine lv_icmp_ge (tgt := 101) hx hb dX2_sameTasteBefore_53 (by decide) (fun c_8 => ?_) (fun c_8 => ?_)
      · skip
        exact hk x6_49 _ _  hR hP hD hS ls (lv_sub hl [0] rfl)
      · exact (fuel0 hfu c_8).elim
    | succ nf ih =>
      intro x6_49 x7_49 H5 locs hfu hR hP hD hS ls hl
      rw [f2_sameTasteBefore_L49] at hR
      refine lv_iload hx hb dX2_sameTasteBefore_49 (lv_at hl 1 rfl) ?_
      refine lv_iload hx hb dX2_sameTasteBefore_51 (lv_at hl 2 rfl) ?_
      refine lv_icmp_ge (tgt := 101) hx hb dX2_sameTasteBefore_53 (by decide) (fun c_9 => ?_) (fun c_9 => ?_)
      · rw [if_pos c_9] at hR
        exact hk x6_49 _ _  hR hP hD hS ls (lv_sub hl [0] rfl)
      · rw [if_neg c_9] at hR
        have hfu := fuelS hfu c_9
        refine lv_aload_n hx hb dX2_sameTasteBefore_56 rfl (lv_at hl 4 rfl) ?_
        refine va_get (D := (dC, dI)) (ci := 2) (v := .ref (aS 0)) (C := RX2) (T := TX2) (N := 2) hx hb hts hin2 hown hK hP 0 rfl rfl 0 (by decide) (hw_ hts 1 rfl) (fun _ h9 => h9) rfl dX2_sameTasteBefore_57 ?_
        refine va_get (D := (dC, dI)) (ci := 5) (v := .ref (aS 11)) (C := RX5) (T := TX5) (N := 12) hx hb hts hin5 hown hK hP 4 rfl rfl 11 (by decide) (hw_ hts 8 rfl) (fun _ h9 => h9) rfl dX2_sameTasteBefore_60 ?_
        refine lv_iload hx hb dX2_sameTasteBefore_63 (lv_at hl 1 rfl) ?_
        refine va_calli (va_runSN (As := [.ref (aS 11), .int x7_49]) (rest := []) ⟨hx, hb, hml, hown, hts⟩ (met_X6_at l dC dI cI cZ cS (aS 11) 84 (by decide) (S 11) H5.size x7_49) ⟨va_cnB 2 hts ggX2_sameTasteBefore_X6_at rfl rfl rfl (hN_9 hN) (hw_ hts 10 rfl) (by decide +kernel) ⟨Nat.le_of_ble_eq_true rfl, Nat.le_of_ble_eq_true rfl⟩, (hw_ hts 9 rfl), trivial⟩ (pS (wc := [((aS 11), .inl (cI, 84, .inl (S 11)))]) hK hP hD hN [14] rfl (by decide)) rfl rfl hl.1 rfl (lv_room (Nat.le_of_ble_eq_true rfl)) dX2_sameTasteBefore_65 ⟨Nat.zero_le _, Nat.zero_le _⟩) hS (fun q _ h => a0_in hS hA q h) (a0_in hS hA) (fun r10 u t H6 locs ht hvm hw hB hz1 hk1 hS => ?_)
        subst hw
        have hP := rdk hP hk1
        refine lv_topi (fun v11 hv11 => ?_)
        have hR := bd_n hv11 hR
        refine lv_istore (lv' := [(8, .int v11), (6, .int x6_49), (7, .int x7_49), (5, .int v7), (3, .int v2), (0, .ref (aO 0))]) hx hb dX2_sameTasteBefore_68 hl (by decide) rfl (fun ls hl => ?_)
        refine lv_iload hx hb dX2_sameTasteBefore_70 (lv_at hl 0 rfl) ?_
        refine lv_iconst (v := (-1 : Int32)) hx hb dX2_sameTasteBefore_72 (by decide) ?_
        refine lv_icmp_eq (tgt := 95) hx hb dX2_sameTasteBefore_73 (by decide) (fun c_12 => ?_) (fun c_12 => ?_)
        · rw [if_pos c_12] at hR
          refine lv_iinc (v := (x7_49 + 1)) (lv' := [(7, .int (x7_49 + 1)), (8, .int v11), (6, .int x6_49), (5, .int v7), (3, .int v2), (0, .ref (aO 0))]) hx hb dX2_sameTasteBefore_95 hl (k := 2) rfl rfl (by decide) rfl (fun ls hl => ?_)
          refine lv_goto (tgt := 49) hx hb dX2_sameTasteBefore_98 (by decide) ?_
          exact ih x6_49 (x7_49 + 1) _ _ hfu hR hP hD hS ls (lv_sub hl [2, 0, 3, 4, 5] rfl)
        · rw [if_neg c_12] at hR
          refine lv_aload_n hx hb dX2_sameTasteBefore_76 rfl (lv_at hl 5 rfl) ?_
          refine va_get (D := (dC, dI)) (ci := 2) (v := .ref (aS 0)) (C := RX2) (T := TX2) (N := 2) hx hb hts hin2 hown hK hP 0 rfl rfl 0 (by decide) (hw_ hts 1 rfl) (fun _ h9 => h9) rfl dX2_sameTasteBefore_77 ?_
          refine va_get (D := (dC, dI)) (ci := 5) (v := .ref (aS 3)) (C := RX5) (T := TX5) (N := 12) hx hb hts hin5 hown hK hP 4 rfl rfl 3 (by decide) (hw_ hts 2 rfl) (fun _ h9 => h9) rfl dX2_sameTasteBefore_80 ?_
          refine lv_iload hx hb dX2_sameTasteBefore_83 (lv_at hl 0 rfl) ?_
          refine va_calli (va_runSN (As := [.ref (aS 3), .int v11]) (rest := []) ⟨hx, hb, hml, hown, hts⟩ (met_X6_at l dC dI cI cZ cS (aS 3) 12 (by decide) (S 3) H6.size v11) ⟨va_cnB 2 hts ggX2_sameTasteBefore_X6_at rfl rfl rfl (hN_9 hN) (hw_ hts 10 rfl) (by decide +kernel) ⟨Nat.le_of_ble_eq_true rfl, Nat.le_of_ble_eq_true rfl⟩, (hw_ hts 9 rfl), trivial⟩ (pS (wc := [((aS 3), .inl (cI, 12, .inl (S 3)))]) hK hP hD hN [7] rfl (by decide)) rfl rfl hl.1 rfl (lv_room (Nat.le_of_ble_eq_true rfl)) dX2_sameTasteBefore_85 ⟨Nat.zero_le _, Nat.zero_le _⟩) hS (fun q _ h => a0_in hS hA q h) (a0_in hS hA) (fun r13 u t H7 locs ht hvm hw hB hz1 hk1 hS => ?_)
          subst hw
          have hP := rdk hP hk1
          refine lv_iload_n hx hb dX2_sameTasteBefore_88 rfl (lv_at hl 4 rfl) ?_
          refine lv_icmp_ne (tgt := 95) hx hb dX2_sameTasteBefore_89 (by decide) (fun c_14 => ?_) (fun c_14 => ?_)
          · rw [if_neg c_14] at hR
            refine lv_iinc (v := (x7_49 + 1)) (lv' := [(7, .int (x7_49 + 1)), (8, .int v11), (6, .int x6_49), (5, .int v7), (3, .int v2), (0, .ref (aO 0))]) hx hb dX2_sameTasteBefore_95 hl (k := 2) rfl rfl (by decide) rfl (fun ls hl => ?_)
            refine lv_goto (tgt := 49) hx hb dX2_sameTasteBefore_98 (by decide) ?_
            exact ih x6_49 (x7_49 + 1) _ _ hfu hR hP hD hS ls (lv_sub hl [2, 0, 3, 4, 5] rfl)
          · rw [if_pos c_14] at hR
            refine lv_iinc (v := (x6_49 + 1)) (lv' := [(6, .int (x6_49 + 1)), (8, .int v11), (7, .int x7_49), (5, .int v7), (3, .int v2), (0, .ref (aO 0))]) hx hb dX2_sameTasteBefore_92 hl (k := 1) rfl rfl (by decide) rfl (fun ls hl => ?_)
            refine lv_iinc (v := (x7_49 + 1)) (lv' := [(7, .int (x7_49 + 1)), (6, .int (x6_49 + 1)), (8, .int v11), (5, .int v7), (3, .int v2), (0, .ref (aO 0))]) hx hb dX2_sameTasteBefore_95 hl (k := 2) rfl rfl (by decide) rfl (fun ls hl => ?_)
            refine lv_goto (tgt := 49) hx hb dX2_sameTasteBefore_98 (by decide) ?_
            exact ih (x6_49 + 1) (x7_49 + 1) _ _ hfu hR hP hD hS ls (lv_sub hl [1, 0, 3, 4, 5] rfl)
  refine LOOP49 (fun x6_49 => x6_49) (fun x6_49 H5 locs hR hP hD hS ls hl => ?_) (fuelN v5 v7) (0 : Int32) v5 _ _ (fuelE _ _) hR hP hD hS ls (lv_sub hl [1, 0, 2, 4, 5] rfl)
  try dsimp only at hR
  refine lv_iload hx hb dX2_sameTasteBefore_101 (lv_at hl 0 rfl) ?_
  exact W.iret (v := x6_49) hx hb hr (fun t ht hW => ⟨⟨x6_49, (), rfl, hR, trivial⟩, hS.F ht⟩) hS.2.2 dX2_sameTasteBefore_103
abbrev rm_X2_joyLeft : Room := { frames := 1, cells := 0, slots := 0, locals := 21 }
abbrev q_X2_joyLeft (dC : Nat → ClassId) (dI : Nat → Nat → Nat) (cI cZ cS : ClassId) (aO : Nat → Nat) (aL : Nat → Nat) (aS : Nat → Nat)  (res : Int32) (A : Nat → Prop) : Array Value → State → Outcome → State → Prop := va_Qi (fun (r : Int32) (u : Unit) => r = res) (fun _ _ => True) A
set_option maxHeartbeats 4000000 in
set_option maxRecDepth 100000 in
theorem met_X2_joyLeft (l : Launch) (dC : Nat → ClassId) (dI : Nat → Nat → Nat) (cI cZ cS : ClassId) (aO : Nat → Nat) (aL : Nat → Nat) (aS : Nat → Nat) (Y : Pic) (S : Pic) (sz : Nat) (p1 : Int32) (p2 : Int32) : Met l yX2_joyLeft wsX2_joyLeft rm_X2_joyLeft (va_Pc [.ref (aO 0), .int p1, .int p2] (pW (dC, dI) (tyS cI cZ cS) (wOu aO aS aL ++ (wLo cI aL Y ++ (wSt cI aS S))) sz)) (q_X2_joyLeft dC dI cI cZ cS aO aL aS (f2_joyLeft S p1 p2) (a0 sz)) 0 0 (a0 sz) := by
  refine Met.ofW (cc := cX2_joyLeft) (maxL := 3) (ret := (some .int)) (by decide) rfl ?_
  intro p e s m args below meth c s₁ B hml hv
  obtain ⟨rfl, hsz, hP, hK, hD0, hN⟩ := hv
  have hx := B.exec
  have hb := B.bytes
  have hr := B.returns
  have hts := atoms_spec (ws := wsX2_joyLeft) B.pre
  have hown : s.vm.findClass RX2 = some m.cls := findClass_of_methodNamed B.named
  have hlocks := B.notSynchronized
  subst hsz
  have hD := hD0
  have hA : ∀ q : Nat, s.heap.size ≤ q → a0 s.heap.size q := fun q h => Or.inr h
  have hS : va_S (a0 s.heap.size) s.heap s.heap [] := va_S.rf
  have hP : va_P (dC, dI) vwCl (wOu aO aS aL ++ (wLo cI aL Y ++ (wSt cI aS S))) s.heap := hP
  generalize hR : f2_joyLeft S p1 p2 = res
  rw [f2_joyLeft] at hR
  have hin2 : ∀ w ∈ wsX20, w ∈ wsX2_joyLeft := by decide +kernel
  have hin5 : ∀ w ∈ wsX50, w ∈ wsX2_joyLeft := by decide +kernel
  have hl := lv_entry ([.ref (aO 0), .int p1, .int p2]) (n := 3) (Nat.le_of_ble_eq_true rfl)
  rw [lg_entry_eq]
  generalize (lg_sl ([.ref (aO 0), .int p1, .int p2]) ++ List.replicate (3 - (lg_sl ([.ref (aO 0), .int p1, .int p2])).length) Slot.unset).toArray = ls at hl ⊢
  have hl : lv_has ls 3 [(0, .ref (aO 0)), (1, .int p1), (2, .int p2)] := hl
  refine lv_iconst (v := (0 : Int32)) hx hb dX2_joyLeft_0 (by decide) ?_
  refine lv_aload_n hx hb dX2_joyLeft_1 rfl (lv_at hl 0 rfl) ?_
  refine va_get (D := (dC, dI)) (ci := 2) (v := .ref (aS 0)) (C := RX2) (T := TX2) (N := 2) hx hb hts hin2 hown hK hP 0 rfl rfl 0 (by decide) (hw_ hts 1 rfl) (fun _ h9 => h9) rfl dX2_joyLeft_2 ?_
  refine va_get (D := (dC, dI)) (ci := 5) (v := .ref (aS 4)) (C := RX5) (T := TX5) (N := 12) hx hb hts hin5 hown hK hP 4 rfl rfl 4 (by decide) (hw_ hts 2 rfl) (fun _ h9 => h9) rfl dX2_joyLeft_5 ?_
  refine lv_iload_n hx hb dX2_joyLeft_8 rfl (lv_at hl 1 rfl) ?_
  refine va_calli (va_runSN (As := [.ref (aS 4), .int p1]) (rest := [.int (0 : Int32)]) ⟨hx, hb, hml, hown, hts⟩ (met_X6_at l dC dI cI cZ cS (aS 4) 12 (by decide) (S 4) s.heap.size p1) ⟨va_cnB 2 hts ggX2_joyLeft_X6_at rfl rfl rfl (hN_9 hN) (hw_ hts 9 rfl) (by decide +kernel) ⟨Nat.le_of_ble_eq_true rfl, Nat.le_of_ble_eq_true rfl⟩, (hw_ hts 8 rfl), trivial⟩ (pS (wc := [((aS 4), .inl (cI, 12, .inl (S 4)))]) hK hP hD hN [8] rfl (by decide)) rfl rfl hl.1 rfl (lv_room (Nat.le_of_ble_eq_true rfl)) dX2_joyLeft_9 ⟨Nat.zero_le _, Nat.zero_le _⟩) hS (fun q _ h => a0_in hS hA q h) (a0_in hS hA) (fun r1 u t H1 locs ht hvm hw hB hz1 hk1 hS => ?_)
  subst hw
  have hP := rdk hP hk1
  refine lv_aload_n hx hb dX2_joyLeft_12 rfl (lv_at hl 0 rfl) ?_
  refine va_get (D := (dC, dI)) (ci := 2) (v := .ref (aS 0)) (C := RX2) (T := TX2) (N := 2) hx hb hts hin2 hown hK hP 0 rfl rfl 0 (by decide) (hw_ hts 1 rfl) (fun _ h9 => h9) rfl dX2_joyLeft_13 ?_
  refine va_get (D := (dC, dI)) (ci := 5) (v := .ref (aS 10)) (C := RX5) (T := TX5) (N := 12) hx hb hts hin5 hown hK hP 4 rfl rfl 10 (by decide) (hw_ hts 3 rfl) (fun _ h9 => h9) rfl dX2_joyLeft_16 ?_
  refine lv_iconst (v := (0 : Int32)) hx hb dX2_joyLeft_19 (by decide) ?_
  refine va_calli (va_runSN (As := [.ref (aS 10), .int (0 : Int32)]) (rest := [.int (f6_at 12 (S 4) p1), .int (0 : Int32)]) ⟨hx, hb, hml, hown, hts⟩ (met_X6_at l dC dI cI cZ cS (aS 10) 3 (by decide) (S 10) H1.size (0 : Int32)) ⟨va_cnB 2 hts ggX2_joyLeft_X6_at rfl rfl rfl (hN_9 hN) (hw_ hts 9 rfl) (by decide +kernel) ⟨Nat.le_of_ble_eq_true rfl, Nat.le_of_ble_eq_true rfl⟩, (hw_ hts 8 rfl), trivial⟩ (pS (wc := [((aS 10), .inl (cI, 3, .inl (S 10)))]) hK hP hD hN [13] rfl (by decide)) rfl rfl hl.1 rfl (lv_room (Nat.le_of_ble_eq_true rfl)) dX2_joyLeft_20 ⟨Nat.zero_le _, Nat.zero_le _⟩) hS (fun q _ h => a0_in hS hA q h) (a0_in hS hA) (fun r2 u t H2 locs ht hvm hw hB hz1 hk1 hS => ?_)
  subst hw
  have hP := rdk hP hk1
  refine lv_iload_n hx hb dX2_joyLeft_23 rfl (lv_at hl 2 rfl) ?_
  refine lv_imul hx hb dX2_joyLeft_24 ?_
  refine lv_isub hx hb dX2_joyLeft_25 ?_
  refine va_mmax hx hb (hml.trans hl.1.symm) hown (hw_ hts 4 rfl) (hw_ hts 5 rfl) (hw_ hts 6 rfl) (hw_ hts 7 rfl) (Nat.le_of_ble_eq_true rfl) (Nat.le_of_ble_eq_true rfl) (Nat.zero_le _) (Nat.zero_le _) dX2_joyLeft_26 ?_
  exact W.iret (v := (if (0 : Int32) < ((f6_at 12 (S 4) p1) - ((f6_at 3 (S 10) (0 : Int32)) * p2)) then ((f6_at 12 (S 4) p1) - ((f6_at 3 (S 10) (0 : Int32)) * p2)) else (0 : Int32))) hx hb hr (fun t ht hW => ⟨⟨(if (0 : Int32) < ((f6_at 12 (S 4) p1) - ((f6_at 3 (S 10) (0 : Int32)) * p2)) then ((f6_at 12 (S 4) p1) - ((f6_at 3 (S 10) (0 : Int32)) * p2)) else (0 : Int32)), (), rfl, hR, trivial⟩, hS.F ht⟩) hS.2.2 dX2_joyLeft_29
abbrev rm_X2_joyOfDish : Room := { frames := 2, cells := 0, slots := 0, locals := 49 }
abbrev q_X2_joyOfDish (dC : Nat → ClassId) (dI : Nat → Nat → Nat) (cI cZ cS : ClassId) (aO : Nat → Nat) (aL : Nat → Nat) (aS : Nat → Nat)  (res : Int32) (A : Nat → Prop) : Array Value → State → Outcome → State → Prop := va_Qi (fun (r : Int32) (u : Unit) => r = res) (fun _ _ => True) A
set_option maxHeartbeats 4000000 in
set_option maxRecDepth 100000 in
theorem met_X2_joyOfDish (l : Launch) (dC : Nat → ClassId) (dI : Nat → Nat → Nat) (cI cZ cS : ClassId) (aO : Nat → Nat) (aL : Nat → Nat) (aS : Nat → Nat) (Y : Pic) (S : Pic) (sz : Nat) (p1 : Int32) (p2 : Int32) : Met l yX2_joyOfDish wsX2_joyOfDish rm_X2_joyOfDish (va_Pc [.ref (aO 0), .int p1, .int p2] (pW (dC, dI) (tyS cI cZ cS) (wOu aO aS aL ++ (wLo cI aL Y ++ (wSt cI aS S))) sz)) (q_X2_joyOfDish dC dI cI cZ cS aO aL aS (f2_joyOfDish S p1 p2) (a0 sz)) 0 0 (a0 sz) := by
  refine Met.ofW (cc := cX2_joyOfDish) (maxL := 3) (ret := (some .int)) (by decide) rfl ?_
  intro p e s m args below meth c s₁ B hml hv
  obtain ⟨rfl, hsz, hP, hK, hD0, hN⟩ := hv
  have hx := B.exec
  have hb := B.bytes
  have hr := B.returns
  have hts := atoms_spec (ws := wsX2_joyOfDish) B.pre
  have hown : s.vm.findClass RX2 = some m.cls := findClass_of_methodNamed B.named
  have hlocks := B.notSynchronized
  subst hsz
  have hD := hD0
  have hA : ∀ q : Nat, s.heap.size ≤ q → a0 s.heap.size q := fun q h => Or.inr h
  have hS : va_S (a0 s.heap.size) s.heap s.heap [] := va_S.rf
  have hP : va_P (dC, dI) vwCl (wOu aO aS aL ++ (wLo cI aL Y ++ (wSt cI aS S))) s.heap := hP
  generalize hR : f2_joyOfDish S p1 p2 = res
  rw [f2_joyOfDish] at hR
  have hl := lv_entry ([.ref (aO 0), .int p1, .int p2]) (n := 3) (Nat.le_of_ble_eq_true rfl)
  rw [lg_entry_eq]
  generalize (lg_sl ([.ref (aO 0), .int p1, .int p2]) ++ List.replicate (3 - (lg_sl ([.ref (aO 0), .int p1, .int p2])).length) Slot.unset).toArray = ls at hl ⊢
  have hl : lv_has ls 3 [(0, .ref (aO 0)), (1, .int p1), (2, .int p2)] := hl
  refine lv_aload_n hx hb dX2_joyOfDish_0 rfl (lv_at hl 0 rfl) ?_
  refine lv_iload_n hx hb dX2_joyOfDish_1 rfl (lv_at hl 2 rfl) ?_
  refine lv_aload_n hx hb dX2_joyOfDish_2 rfl (lv_at hl 0 rfl) ?_
  refine lv_iload_n hx hb dX2_joyOfDish_3 rfl (lv_at hl 1 rfl) ?_
  refine lv_iload_n hx hb dX2_joyOfDish_4 rfl (lv_at hl 2 rfl) ?_
  refine va_calli (va_runV (As := [.int p1, .int p2]) (rest := [.int p2, .ref (aO 0)]) ⟨hx, hb, hml, hown, hts⟩ (met_X2_sameTasteBefore l dC dI cI cZ cS aO aL aS Y S s.heap.size p1 p2) (cwV 2 hts gX2_joyOfDish_X2_sameTasteBefore rfl rfl rfl (by decide +kernel) ⟨Nat.le_of_ble_eq_true rfl, Nat.le_of_ble_eq_true rfl⟩) (pV (wc := wOu aO aS aL ++ (wLo cI aL Y ++ (wSt cI aS S))) (ci := 2) (q0 := 0) hK hP hD hN [0, 1, 2, 3, 4, 5, 6, 7, 8, 9, 10, 11, 12, 13, 14] rfl (by decide) rfl rfl) rfl rfl hl.1 rfl (lv_room (Nat.le_of_ble_eq_true rfl)) dX2_joyOfDish_5 ⟨Nat.zero_le _, Nat.zero_le _⟩) hS (fun q _ h => a0_in hS hA q h) (a0_in hS hA) (fun r1 u t H1 locs ht hvm hw hB hz1 hk1 hS => ?_)
  have hR := bd_n hw hR
  have hP := rdk hP hk1
  refine va_calli (va_runV (As := [.int p2, .int r1]) (rest := []) ⟨hx, hb, hml, hown, hts⟩ (met_X2_joyLeft l dC dI cI cZ cS aO aL aS Y S H1.size p2 r1) (cwV 2 hts gX2_joyOfDish_X2_joyLeft rfl rfl rfl (by decide +kernel) ⟨Nat.le_of_ble_eq_true rfl, Nat.le_of_ble_eq_true rfl⟩) (pV (wc := wOu aO aS aL ++ (wLo cI aL Y ++ (wSt cI aS S))) (ci := 2) (q0 := 0) hK hP hD hN [0, 1, 2, 3, 4, 5, 6, 7, 8, 9, 10, 11, 12, 13, 14] rfl (by decide) rfl rfl) rfl rfl hl.1 rfl (lv_room (Nat.le_of_ble_eq_true rfl)) dX2_joyOfDish_8 ⟨Nat.zero_le _, Nat.zero_le _⟩) hS (fun q _ h => a0_in hS hA q h) (a0_in hS hA) (fun r2 u t H2 locs ht hvm hw hB hz1 hk1 hS => ?_)
  have hR := bd_n hw hR
  have hP := rdk hP hk1
  exact W.iret (v := r2) hx hb hr (fun t ht hW => ⟨⟨r2, (), rfl, hR, trivial⟩, hS.F ht⟩) hS.2.2 dX2_joyOfDish_11
abbrev rm_X2_joyOfMeal : Room := { frames := 3, cells := 0, slots := 0, locals := 71 }
abbrev q_X2_joyOfMeal (dC : Nat → ClassId) (dI : Nat → Nat → Nat) (cI cZ cS : ClassId) (aO : Nat → Nat) (aL : Nat → Nat) (aS : Nat → Nat)  (res : Int32) (A : Nat → Prop) : Array Value → State → Outcome → State → Prop := va_Qi (fun (r : Int32) (u : Unit) => r = res) (fun _ _ => True) A
set_option maxHeartbeats 4000000 in
set_option maxRecDepth 100000 in
theorem met_X2_joyOfMeal (l : Launch) (dC : Nat → ClassId) (dI : Nat → Nat → Nat) (cI cZ cS : ClassId) (aO : Nat → Nat) (aL : Nat → Nat) (aS : Nat → Nat) (Y : Pic) (S : Pic) (sz : Nat) (p1 : Int32) : Met l yX2_joyOfMeal wsX2_joyOfMeal rm_X2_joyOfMeal (va_Pc [.ref (aO 0), .int p1] (pW (dC, dI) (tyS cI cZ cS) (wOu aO aS aL ++ (wLo cI aL Y ++ (wSt cI aS S))) sz)) (q_X2_joyOfMeal dC dI cI cZ cS aO aL aS (f2_joyOfMeal S p1) (a0 sz)) 0 0 (a0 sz) := by
  refine Met.ofW (cc := cX2_joyOfMeal) (maxL := 5) (ret := (some .int)) (by decide) rfl ?_
  intro p e s m args below meth c s₁ B hml hv
  obtain ⟨rfl, hsz, hP, hK, hD0, hN⟩ := hv
  have hx := B.exec
  have hb := B.bytes
  have hr := B.returns
  have hts := atoms_spec (ws := wsX2_joyOfMeal) B.pre
  have hown : s.vm.findClass RX2 = some m.cls := findClass_of_methodNamed B.named
  have hlocks := B.notSynchronized
  subst hsz
  have hD := hD0
  have hA : ∀ q : Nat, s.heap.size ≤ q → a0 s.heap.size q := fun q h => Or.inr h
  have hS : va_S (a0 s.heap.size) s.heap s.heap [] := va_S.rf
  have hP : va_P (dC, dI) vwCl (wOu aO aS aL ++ (wLo cI aL Y ++ (wSt cI aS S))) s.heap := hP
  generalize hR : f2_joyOfMeal S p1 = res
  rw [f2_joyOfMeal] at hR
  have hin2 : ∀ w ∈ wsX20, w ∈ wsX2_joyOfMeal := by decide +kernel
  have hin5 : ∀ w ∈ wsX50, w ∈ wsX2_joyOfMeal := by decide +kernel
  have hl := lv_entry ([.ref (aO 0), .int p1]) (n := 5) (Nat.le_of_ble_eq_true rfl)
  rw [lg_entry_eq]
  generalize (lg_sl ([.ref (aO 0), .int p1]) ++ List.replicate (5 - (lg_sl ([.ref (aO 0), .int p1])).length) Slot.unset).toArray = ls at hl ⊢
  have hl : lv_has ls 5 [(0, .ref (aO 0)), (1, .int p1)] := hl
  refine lv_iconst (v := (0 : Int32)) hx hb dX2_joyOfMeal_0 (by decide) ?_
  refine lv_istore_n (lv' := [(2, .int (0 : Int32)), (0, .ref (aO 0)), (1, .int p1)]) hx hb dX2_joyOfMeal_1 rfl hl (by decide) rfl (fun ls hl => ?_)
  refine lv_iconst (v := (0 : Int32)) hx hb dX2_joyOfMeal_2 (by decide) ?_
  refine lv_istore_n (lv' := [(3, .int (0 : Int32)), (2, .int (0 : Int32)), (0, .ref (aO 0)), (1, .int p1)]) hx hb dX2_joyOfMeal_3 rfl hl (by decide) rfl (fun ls hl => ?_)
  have LOOP4 : ∀ (k : Int32 → Int32), (∀ (x2_4 : Int32) (H1 : Heap) (locs : List Loc), k x2_4 = res → va_P (dC, dI) vwCl (wOu aO aS aL ++ (wLo cI aL Y ++ (wSt cI aS S))) H1 → va_D (fun _ => True) (wOu aO aS aL ++ (wLo cI aL Y ++ (wSt cI aS S))) → va_S (a0 s.heap.size) s.heap H1 locs → ∀ (ls : Array Slot), lv_has ls 5 [(2, .int x2_4)] → W p l e (headSpec wsX2_joyOfMeal rm_X2_joyOfMeal).room s m ([.ref (aO 0), .int p1] : List Value).toArray below meth c H1 locs 0 0 (MQ below (q_X2_joyOfMeal dC dI cI cZ cS aO aL aS res (a0 s.heap.size)) ([.ref (aO 0), .int p1] : List Value).toArray s 0 0 (a0 s.heap.size)) (F0 m 48 ls [])) → ∀ (nf : Nat) (x2_4 : Int32) (x3_4 : Int32) (H1 : Heap) (locs : List Loc), ((3 : Int32)).toInt - (x3_4).toInt ≤ (nf : Int) → f2_joyOfMeal_L4 S p1 nf x2_4 x3_4 k = res → va_P (dC, dI) vwCl (wOu aO aS aL ++ (wLo cI aL Y ++ (wSt cI aS S))) H1 → va_D (fun _ => True) (wOu aO aS aL ++ (wLo cI aL Y ++ (wSt cI aS S))) → va_S (a0 s.heap.size) s.heap H1 locs → ∀ (ls : Array Slot), lv_has ls 5 [(2, .int x2_4), (3, .int x3_4), (0, .ref (aO 0)), (1, .int p1)] → W p l e (headSpec wsX2_joyOfMeal rm_X2_joyOfMeal).room s m ([.ref (aO 0), .int p1] : List Value).toArray below meth c H1 locs 0 0 (MQ below (q_X2_joyOfMeal dC dI cI cZ cS aO aL aS res (a0 s.heap.size)) ([.ref (aO 0), .int p1] : List Value).toArray s 0 0 (a0 s.heap.size)) (F0 m 4 ls []) := by
    intro k hk nf
    induction nf with
    | zero =>
      intro x2_4 x3_4 H1 locs hfu hR hP hD hS ls hl
      rw [f2_joyOfMeal_L4] at hR
      refine lv_iload_n hx hb dX2_joyOfMeal_4 rfl (lv_at hl 1 rfl) ?_
      refine lv_iconst (v := (3 : Int32)) hx hb dX2_joyOfMeal_5 (by decide) ?_
      refine lv_icmp_ge (tgt := 48) hx hb dX2_joyOfMeal_6 (by decide) (fun c_1 => ?_) (fun c_1 => ?_)
      · skip
        exact hk x2_4 _ _  hR hP hD hS ls (lv_sub hl [0] rfl)
      · exact (fuel0 hfu c_1).elim
    | succ nf ih =>
      intro x2_4 x3_4 H1 locs hfu hR hP hD hS ls hl
      rw [f2_joyOfMeal_L4] at hR
      refine lv_iload_n hx hb dX2_joyOfMeal_4 rfl (lv_at hl 1 rfl) ?_
      refine lv_iconst (v := (3 : Int32)) hx hb dX2_joyOfMeal_5 (by decide) ?_
      refine lv_icmp_ge (tgt := 48) hx hb dX2_joyOfMeal_6 (by decide) (fun c_2 => ?_) (fun c_2 => ?_)
      · rw [if_pos c_2] at hR
        exact hk x2_4 _ _  hR hP hD hS ls (lv_sub hl [0] rfl)
      · rw [if_neg c_2] at hR
        have hfu := fuelS hfu c_2
        refine lv_aload_n hx hb dX2_joyOfMeal_9 rfl (lv_at hl 2 rfl) ?_
        refine va_get (D := (dC, dI)) (ci := 2) (v := .ref (aS 0)) (C := RX2) (T := TX2) (N := 2) hx hb hts hin2 hown hK hP 0 rfl rfl 0 (by decide) (hw_ hts 1 rfl) (fun _ h9 => h9) rfl dX2_joyOfMeal_10 ?_
        refine va_get (D := (dC, dI)) (ci := 5) (v := .ref (aS 11)) (C := RX5) (T := TX5) (N := 12) hx hb hts hin5 hown hK hP 4 rfl rfl 11 (by decide) (hw_ hts 2 rfl) (fun _ h9 => h9) rfl dX2_joyOfMeal_13 ?_
        refine lv_iload_n hx hb dX2_joyOfMeal_16 rfl (lv_at hl 3 rfl) ?_
        refine lv_iload_n hx hb dX2_joyOfMeal_17 rfl (lv_at hl 1 rfl) ?_
        refine va_calli (va_runSN (As := [.int p1, .int x3_4]) (rest := [.ref (aS 11)]) ⟨hx, hb, hml, hown, hts⟩ (met_X6_cellOf l dC dI cI cZ cS H1.size p1 x3_4) ⟨va_cnB 2 hts ggX2_joyOfMeal_X6_cellOf rfl rfl rfl (hN_8 hN) (hw_ hts 4 rfl) (by decide +kernel) ⟨Nat.le_of_ble_eq_true rfl, Nat.le_of_ble_eq_true rfl⟩, (hw_ hts 3 rfl), trivial⟩ (pS (wc := []) hK hP hD hN [] rfl (by decide)) rfl rfl hl.1 rfl (lv_room (Nat.le_of_ble_eq_true rfl)) dX2_joyOfMeal_18 ⟨Nat.zero_le _, Nat.zero_le _⟩) hS (fun q _ h => a0_in hS hA q h) (a0_in hS hA) (fun r3 u t H2 locs ht hvm hw hB hz1 hk1 hS => ?_)
        subst hw
        have hP := rdk hP hk1
        refine va_calli (va_runSN (As := [.ref (aS 11), .int (f6_cellOf p1 x3_4)]) (rest := []) ⟨hx, hb, hml, hown, hts⟩ (met_X6_at l dC dI cI cZ cS (aS 11) 84 (by decide) (S 11) H2.size (f6_cellOf p1 x3_4)) ⟨va_cnB 2 hts ggX2_joyOfMeal_X6_at rfl rfl rfl (hN_9 hN) (hw_ hts 4 rfl) (by decide +kernel) ⟨Nat.le_of_ble_eq_true rfl, Nat.le_of_ble_eq_true rfl⟩, (hw_ hts 6 rfl), trivial⟩ (pS (wc := [((aS 11), .inl (cI, 84, .inl (S 11)))]) hK hP hD hN [14] rfl (by decide)) rfl rfl hl.1 rfl (lv_room (Nat.le_of_ble_eq_true rfl)) dX2_joyOfMeal_21 ⟨Nat.zero_le _, Nat.zero_le _⟩) hS (fun q _ h => a0_in hS hA q h) (a0_in hS hA) (fun r4 u t H3 locs ht hvm hw hB hz1 hk1 hS => ?_)
        subst hw
        have hP := rdk hP hk1
        refine lv_topi (fun v5 hv5 => ?_)
        have hR := bd_n hv5 hR
        refine lv_istore (lv' := [(4, .int v5), (2, .int x2_4), (3, .int x3_4), (0, .ref (aO 0)), (1, .int p1)]) hx hb dX2_joyOfMeal_24 hl (by decide) rfl (fun ls hl => ?_)
        refine lv_iload hx hb dX2_joyOfMeal_26 (lv_at hl 0 rfl) ?_
        refine lv_iconst (v := (-1 : Int32)) hx hb dX2_joyOfMeal_28 (by decide) ?_
        refine lv_icmp_eq (tgt := 42) hx hb dX2_joyOfMeal_29 (by decide) (fun c_6 => ?_) (fun c_6 => ?_)
        · rw [if_pos c_6] at hR
          refine lv_iinc (v := (x3_4 + 1)) (lv' := [(3, .int (x3_4 + 1)), (4, .int v5), (2, .int x2_4), (0, .ref (aO 0)), (1, .int p1)]) hx hb dX2_joyOfMeal_42 hl (k := 2) rfl rfl (by decide) rfl (fun ls hl => ?_)
          refine lv_goto (tgt := 4) hx hb dX2_joyOfMeal_45 (by decide) ?_
          exact ih x2_4 (x3_4 + 1) _ _ hfu hR hP hD hS ls (lv_sub hl [2, 0, 3, 4] rfl)
        · rw [if_neg c_6] at hR
          refine lv_iload_n hx hb dX2_joyOfMeal_32 rfl (lv_at hl 1 rfl) ?_
          refine lv_aload_n hx hb dX2_joyOfMeal_33 rfl (lv_at hl 3 rfl) ?_
          refine lv_iload_n hx hb dX2_joyOfMeal_34 rfl (lv_at hl 4 rfl) ?_
          refine lv_iload hx hb dX2_joyOfMeal_35 (lv_at hl 0 rfl) ?_
          refine va_calli (va_runV (As := [.int p1, .int v5]) (rest := [.int x2_4]) ⟨hx, hb, hml, hown, hts⟩ (met_X2_joyOfDish l dC dI cI cZ cS aO aL aS Y S H3.size p1 v5) (cwV 2 hts gX2_joyOfMeal_X2_joyOfDish rfl rfl rfl (by decide +kernel) ⟨Nat.le_of_ble_eq_true rfl, Nat.le_of_ble_eq_true rfl⟩) (pV (wc := wOu aO aS aL ++ (wLo cI aL Y ++ (wSt cI aS S))) (ci := 2) (q0 := 0) hK hP hD hN [0, 1, 2, 3, 4, 5, 6, 7, 8, 9, 10, 11, 12, 13, 14] rfl (by decide) rfl rfl) rfl rfl hl.1 rfl (lv_room (Nat.le_of_ble_eq_true rfl)) dX2_joyOfMeal_37 ⟨Nat.zero_le _, Nat.zero_le _⟩) hS (fun q _ h => a0_in hS hA q h) (a0_in hS hA) (fun r7 u t H4 locs ht hvm hw hB hz1 hk1 hS => ?_)
          have hR := bd_n hw hR
          have hP := rdk hP hk1
          refine lv_iadd hx hb dX2_joyOfMeal_40 ?_
          refine lv_topi (fun v8 hv8 => ?_)
          have hR := bd_n hv8 hR
          refine lv_istore_n (lv' := [(2, .int v8), (4, .int v5), (3, .int x3_4), (0, .ref (aO 0)), (1, .int p1)]) hx hb dX2_joyOfMeal_41 rfl hl (by decide) rfl (fun ls hl => ?_)
          refine lv_iinc (v := (x3_4 + 1)) (lv' := [(3, .int (x3_4 + 1)), (2, .int v8), (4, .int v5), (0, .ref (aO 0)), (1, .int p1)]) hx hb dX2_joyOfMeal_42 hl (k := 2) rfl rfl (by decide) rfl (fun ls hl => ?_)
          refine lv_goto (tgt := 4) hx hb dX2_joyOfMeal_45 (by decide) ?_
          exact ih v8 (x3_4 + 1) _ _ hfu hR hP hD hS ls (lv_sub hl [1, 0, 3, 4] rfl)
  refine LOOP4 (fun x2_4 => x2_4) (fun x2_4 H1 locs hR hP hD hS ls hl => ?_) 3 (0 : Int32) (0 : Int32) _ _ (by decide) hR hP hD hS ls (lv_sub hl [1, 0, 2, 3] rfl)
  try dsimp only at hR
  refine lv_iload_n hx hb dX2_joyOfMeal_48 rfl (lv_at hl 0 rfl) ?_
  exact W.iret (v := x2_4) hx hb hr (fun t ht hW => ⟨⟨x2_4, (), rfl, hR, trivial⟩, hS.F ht⟩) hS.2.2 dX2_joyOfMeal_49
abbrev rm_X2_joyOfPlan : Room := { frames := 4, cells := 0, slots := 0, locals := 95 }
abbrev q_X2_joyOfPlan (dC : Nat → ClassId) (dI : Nat → Nat → Nat) (cI cZ cS : ClassId) (aO : Nat → Nat) (aL : Nat → Nat) (aS : Nat → Nat)  (res : Int32) (A : Nat → Prop) : Array Value → State → Outcome → State → Prop := va_Qi (fun (r : Int32) (u : Unit) => r = res) (fun _ _ => True) A
set_option maxHeartbeats 4000000 in
set_option maxRecDepth 100000 in
theorem met_X2_joyOfPlan (l : Launch) (dC : Nat → ClassId) (dI : Nat → Nat → Nat) (cI cZ cS : ClassId) (aO : Nat → Nat) (aL : Nat → Nat) (aS : Nat → Nat) (Y : Pic) (S : Pic) (sz : Nat)  : Met l yX2_joyOfPlan wsX2_joyOfPlan rm_X2_joyOfPlan (va_Pc [.ref (aO 0)] (pW (dC, dI) (tyS cI cZ cS) (wOu aO aS aL ++ (wLo cI aL Y ++ (wSt cI aS S))) sz)) (q_X2_joyOfPlan dC dI cI cZ cS aO aL aS (f2_joyOfPlan S) (a0 sz)) 0 0 (a0 sz) := by
  refine Met.ofW (cc := cX2_joyOfPlan) (maxL := 3) (ret := (some .int)) (by decide) rfl ?_
  intro p e s m args below meth c s₁ B hml hv
  obtain ⟨rfl, hsz, hP, hK, hD0, hN⟩ := hv
  have hx := B.exec
  have hb := B.bytes
  have hr := B.returns
  have hts := atoms_spec (ws := wsX2_joyOfPlan) B.pre
  have hown : s.vm.findClass RX2 = some m.cls := findClass_of_methodNamed B.named
  have hlocks := B.notSynchronized
  subst hsz
  have hD := hD0
  have hA : ∀ q : Nat, s.heap.size ≤ q → a0 s.heap.size q := fun q h => Or.inr h
  have hS : va_S (a0 s.heap.size) s.heap s.heap [] := va_S.rf
  have hP : va_P (dC, dI) vwCl (wOu aO aS aL ++ (wLo cI aL Y ++ (wSt cI aS S))) s.heap := hP
  generalize hR : f2_joyOfPlan S = res
  rw [f2_joyOfPlan] at hR
  have hl := lv_entry ([.ref (aO 0)]) (n := 3) (Nat.le_of_ble_eq_true rfl)
  rw [lg_entry_eq]
  generalize (lg_sl ([.ref (aO 0)]) ++ List.replicate (3 - (lg_sl ([.ref (aO 0)])).length) Slot.unset).toArray = ls at hl ⊢
  have hl : lv_has ls 3 [(0, .ref (aO 0))] := hl
  refine lv_iconst (v := (0 : Int32)) hx hb dX2_joyOfPlan_0 (by decide) ?_
  refine lv_istore_n (lv' := [(1, .int (0 : Int32)), (0, .ref (aO 0))]) hx hb dX2_joyOfPlan_1 rfl hl (by decide) rfl (fun ls hl => ?_)
  refine lv_iconst (v := (0 : Int32)) hx hb dX2_joyOfPlan_2 (by decide) ?_
  refine lv_istore_n (lv' := [(2, .int (0 : Int32)), (1, .int (0 : Int32)), (0, .ref (aO 0))]) hx hb dX2_joyOfPlan_3 rfl hl (by decide) rfl (fun ls hl => ?_)
  have LOOP4 : ∀ (k : Int32 → Int32), (∀ (x1_4 : Int32) (H1 : Heap) (locs : List Loc), k x1_4 = res → va_P (dC, dI) vwCl (wOu aO aS aL ++ (wLo cI aL Y ++ (wSt cI aS S))) H1 → va_D (fun _ => True) (wOu aO aS aL ++ (wLo cI aL Y ++ (wSt cI aS S))) → va_S (a0 s.heap.size) s.heap H1 locs → ∀ (ls : Array Slot), lv_has ls 3 [(1, .int x1_4)] → W p l e (headSpec wsX2_joyOfPlan rm_X2_joyOfPlan).room s m ([.ref (aO 0)] : List Value).toArray below meth c H1 locs 0 0 (MQ below (q_X2_joyOfPlan dC dI cI cZ cS aO aL aS res (a0 s.heap.size)) ([.ref (aO 0)] : List Value).toArray s 0 0 (a0 s.heap.size)) (F0 m 24 ls [])) → ∀ (nf : Nat) (x1_4 : Int32) (x2_4 : Int32) (H1 : Heap) (locs : List Loc), ((28 : Int32)).toInt - (x2_4).toInt ≤ (nf : Int) → f2_joyOfPlan_L4 S nf x1_4 x2_4 k = res → va_P (dC, dI) vwCl (wOu aO aS aL ++ (wLo cI aL Y ++ (wSt cI aS S))) H1 → va_D (fun _ => True) (wOu aO aS aL ++ (wLo cI aL Y ++ (wSt cI aS S))) → va_S (a0 s.heap.size) s.heap H1 locs → ∀ (ls : Array Slot), lv_has ls 3 [(1, .int x1_4), (2, .int x2_4), (0, .ref (aO 0))] → W p l e (headSpec wsX2_joyOfPlan rm_X2_joyOfPlan).room s m ([.ref (aO 0)] : List Value).toArray below meth c H1 locs 0 0 (MQ below (q_X2_joyOfPlan dC dI cI cZ cS aO aL aS res (a0 s.heap.size)) ([.ref (aO 0)] : List Value).toArray s 0 0 (a0 s.heap.size)) (F0 m 4 ls []) := by
    intro k hk nf
    induction nf with
    | zero =>
      intro x1_4 x2_4 H1 locs hfu hR hP hD hS ls hl
      rw [f2_joyOfPlan_L4] at hR
      refine lv_iload_n hx hb dX2_joyOfPlan_4 rfl (lv_at hl 1 rfl) ?_
      refine lv_bipush (v := (28 : Int32)) hx hb dX2_joyOfPlan_5 (by decide) ?_
      refine lv_icmp_ge (tgt := 24) hx hb dX2_joyOfPlan_7 (by decide) (fun c_1 => ?_) (fun c_1 => ?_)
      · skip
        exact hk x1_4 _ _  hR hP hD hS ls (lv_sub hl [0] rfl)
      · exact (fuel0 hfu c_1).elim
    | succ nf ih =>
      intro x1_4 x2_4 H1 locs hfu hR hP hD hS ls hl
      rw [f2_joyOfPlan_L4] at hR
      refine lv_iload_n hx hb dX2_joyOfPlan_4 rfl (lv_at hl 1 rfl) ?_
      refine lv_bipush (v := (28 : Int32)) hx hb dX2_joyOfPlan_5 (by decide) ?_
      refine lv_icmp_ge (tgt := 24) hx hb dX2_joyOfPlan_7 (by decide) (fun c_2 => ?_) (fun c_2 => ?_)
      · rw [if_pos c_2] at hR
        exact hk x1_4 _ _  hR hP hD hS ls (lv_sub hl [0] rfl)
      · rw [if_neg c_2] at hR
        have hfu := fuelS hfu c_2
        refine lv_iload_n hx hb dX2_joyOfPlan_10 rfl (lv_at hl 0 rfl) ?_
        refine lv_aload_n hx hb dX2_joyOfPlan_11 rfl (lv_at hl 2 rfl) ?_
        refine lv_iload_n hx hb dX2_joyOfPlan_12 rfl (lv_at hl 1 rfl) ?_
        refine va_calli (va_runV (As := [.int x2_4]) (rest := [.int x1_4]) ⟨hx, hb, hml, hown, hts⟩ (met_X2_joyOfMeal l dC dI cI cZ cS aO aL aS Y S H1.size x2_4) (cwV 1 hts gX2_joyOfPlan_X2_joyOfMeal rfl rfl rfl (by decide +kernel) ⟨Nat.le_of_ble_eq_true rfl, Nat.le_of_ble_eq_true rfl⟩) (pV (wc := wOu aO aS aL ++ (wLo cI aL Y ++ (wSt cI aS S))) (ci := 2) (q0 := 0) hK hP hD hN [0, 1, 2, 3, 4, 5, 6, 7, 8, 9, 10, 11, 12, 13, 14] rfl (by decide) rfl rfl) rfl rfl hl.1 rfl (lv_room (Nat.le_of_ble_eq_true rfl)) dX2_joyOfPlan_13 ⟨Nat.zero_le _, Nat.zero_le _⟩) hS (fun q _ h => a0_in hS hA q h) (a0_in hS hA) (fun r3 u t H2 locs ht hvm hw hB hz1 hk1 hS => ?_)
        have hR := bd_n hw hR
        have hP := rdk hP hk1
        refine lv_iadd hx hb dX2_joyOfPlan_16 ?_
        refine lv_topi (fun v4 hv4 => ?_)
        have hR := bd_n hv4 hR
        refine lv_istore_n (lv' := [(1, .int v4), (2, .int x2_4), (0, .ref (aO 0))]) hx hb dX2_joyOfPlan_17 rfl hl (by decide) rfl (fun ls hl => ?_)
        refine lv_iinc (v := (x2_4 + 1)) (lv' := [(2, .int (x2_4 + 1)), (1, .int v4), (0, .ref (aO 0))]) hx hb dX2_joyOfPlan_18 hl (k := 1) rfl rfl (by decide) rfl (fun ls hl => ?_)
        refine lv_goto (tgt := 4) hx hb dX2_joyOfPlan_21 (by decide) ?_
        exact ih v4 (x2_4 + 1) _ _ hfu hR hP hD hS ls (lv_sub hl [1, 0, 2] rfl)
  refine LOOP4 (fun x1_4 => x1_4) (fun x1_4 H1 locs hR hP hD hS ls hl => ?_) 28 (0 : Int32) (0 : Int32) _ _ (by decide) hR hP hD hS ls (lv_sub hl [1, 0, 2] rfl)
  try dsimp only at hR
  refine lv_iload_n hx hb dX2_joyOfPlan_24 rfl (lv_at hl 0 rfl) ?_
  exact W.iret (v := x1_4) hx hb hr (fun t ht hW => ⟨⟨x1_4, (), rfl, hR, trivial⟩, hS.F ht⟩) hS.2.2 dX2_joyOfPlan_25
abbrev rm_X2_isBetter : Room := { frames := 3, cells := 0, slots := 0, locals := 71 }
abbrev q_X2_isBetter (dC : Nat → ClassId) (dI : Nat → Nat → Nat) (cI cZ cS : ClassId) (aO : Nat → Nat) (aL : Nat → Nat) (aS : Nat → Nat)  (res : Int32) (A : Nat → Prop) : Array Value → State → Outcome → State → Prop := va_Qi (fun (r : Int32) (u : Unit) => r = res ∧ narrow .boolean (.int r) = .int r) (fun _ _ => True) A
set_option maxHeartbeats 4000000 in
set_option maxRecDepth 100000 in
theorem met_X2_isBetter (l : Launch) (dC : Nat → ClassId) (dI : Nat → Nat → Nat) (cI cZ cS : ClassId) (aO : Nat → Nat) (aL : Nat → Nat) (aS : Nat → Nat) (Y : Pic) (S : Pic) (sz : Nat) (p1 : Int32) (p2 : Int32) (p3 : Int32) : Met l yX2_isBetter wsX2_isBetter rm_X2_isBetter (va_Pc [.ref (aO 0), .int p1, .int p2, .int p3] (pW (dC, dI) (tyS cI cZ cS) (wOu aO aS aL ++ (wLo cI aL Y ++ (wSt cI aS S))) sz)) (q_X2_isBetter dC dI cI cZ cS aO aL aS (f2_isBetter S p1 p2 p3) (a0 sz)) 0 0 (a0 sz) := by
  refine Met.ofW (cc := cX2_isBetter) (maxL := 5) (ret := (some .boolean)) (by decide) rfl ?_
  intro p e s m args below meth c s₁ B hml hv
  obtain ⟨rfl, hsz, hP, hK, hD0, hN⟩ := hv
  have hx := B.exec
  have hb := B.bytes
  have hr := B.returns
  have hts := atoms_spec (ws := wsX2_isBetter) B.pre
  have hown : s.vm.findClass RX2 = some m.cls := findClass_of_methodNamed B.named
  have hlocks := B.notSynchronized
  subst hsz
  have hD := hD0
  have hA : ∀ q : Nat, s.heap.size ≤ q → a0 s.heap.size q := fun q h => Or.inr h
  have hS : va_S (a0 s.heap.size) s.heap s.heap [] := va_S.rf
  have hP : va_P (dC, dI) vwCl (wOu aO aS aL ++ (wLo cI aL Y ++ (wSt cI aS S))) s.heap := hP
  generalize hR : f2_isBetter S p1 p2 p3 = res
  rw [f2_isBetter] at hR
  have hin2 : ∀ w ∈ wsX20, w ∈ wsX2_isBetter := by decide +kernel
  have hin5 : ∀ w ∈ wsX50, w ∈ wsX2_isBetter := by decide +kernel
  have hl := lv_entry ([.ref (aO 0), .int p1, .int p2, .int p3]) (n := 5) (Nat.le_of_ble_eq_true rfl)
  rw [lg_entry_eq]
  generalize (lg_sl ([.ref (aO 0), .int p1, .int p2, .int p3]) ++ List.replicate (5 - (lg_sl ([.ref (aO 0), .int p1, .int p2, .int p3])).length) Slot.unset).toArray = ls at hl ⊢
  have hl : lv_has ls 5 [(0, .ref (aO 0)), (1, .int p1), (2, .int p2), (3, .int p3)] := hl
  refine lv_aload_n hx hb dX2_isBetter_0 rfl (lv_at hl 0 rfl) ?_
  refine lv_iload_n hx hb dX2_isBetter_1 rfl (lv_at hl 1 rfl) ?_
  refine lv_iload_n hx hb dX2_isBetter_2 rfl (lv_at hl 2 rfl) ?_
  refine va_calli (va_runV (As := [.int p1, .int p2]) (rest := []) ⟨hx, hb, hml, hown, hts⟩ (met_X2_joyOfDish l dC dI cI cZ cS aO aL aS Y S s.heap.size p1 p2) (cwV 2 hts gX2_isBetter_X2_joyOfDish rfl rfl rfl (by decide +kernel) ⟨Nat.le_of_ble_eq_true rfl, Nat.le_of_ble_eq_true rfl⟩) (pV (wc := wOu aO aS aL ++ (wLo cI aL Y ++ (wSt cI aS S))) (ci := 2) (q0 := 0) hK hP hD hN [0, 1, 2, 3, 4, 5, 6, 7, 8, 9, 10, 11, 12, 13, 14] rfl (by decide) rfl rfl) rfl rfl hl.1 rfl (lv_room (Nat.le_of_ble_eq_true rfl)) dX2_isBetter_3 ⟨Nat.zero_le _, Nat.zero_le _⟩) hS (fun q _ h => a0_in hS hA q h) (a0_in hS hA) (fun r1 u t H1 locs ht hvm hw hB hz1 hk1 hS => ?_)
  have hR := bd_n hw hR
  have hP := rdk hP hk1
  refine lv_aload_n hx hb dX2_isBetter_6 rfl (lv_at hl 0 rfl) ?_
  refine lv_iload_n hx hb dX2_isBetter_7 rfl (lv_at hl 1 rfl) ?_
  refine lv_iload_n hx hb dX2_isBetter_8 rfl (lv_at hl 3 rfl) ?_
  refine va_calli (va_runV (As := [.int p1, .int p3]) (rest := [.int r1]) ⟨hx, hb, hml, hown, hts⟩ (met_X2_joyOfDish l dC dI cI cZ cS aO aL aS Y S H1.size p1 p3) (cwV 2 hts gX2_isBetter_X2_joyOfDish rfl rfl rfl (by decide +kernel) ⟨Nat.le_of_ble_eq_true rfl, Nat.le_of_ble_eq_true rfl⟩) (pV (wc := wOu aO aS aL ++ (wLo cI aL Y ++ (wSt cI aS S))) (ci := 2) (q0 := 0) hK hP hD hN [0, 1, 2, 3, 4, 5, 6, 7, 8, 9, 10, 11, 12, 13, 14] rfl (by decide) rfl rfl) rfl rfl hl.1 rfl (lv_room (Nat.le_of_ble_eq_true rfl)) dX2_isBetter_9 ⟨Nat.zero_le _, Nat.zero_le _⟩) hS (fun q _ h => a0_in hS hA q h) (a0_in hS hA) (fun r2 u t H2 locs ht hvm hw hB hz1 hk1 hS => ?_)
  have hR := bd_n hw hR
  have hP := rdk hP hk1
  refine lv_isub hx hb dX2_isBetter_12 ?_
  refine lv_topi (fun v3 hv3 => ?_)
  have hR := bd_n hv3 hR
  refine lv_istore (lv' := [(4, .int v3), (0, .ref (aO 0)), (1, .int p1), (2, .int p2), (3, .int p3)]) hx hb dX2_isBetter_13 hl (by decide) rfl (fun ls hl => ?_)
  refine lv_iload hx hb dX2_isBetter_15 (lv_at hl 0 rfl) ?_
  refine lv_if_gt (tgt := 50) hx hb dX2_isBetter_17 (by decide) (fun c_4 => ?_) (fun c_4 => ?_)
  · rw [if_pos c_4] at hR
    refine lv_iconst (v := (1 : Int32)) hx hb dX2_isBetter_50 (by decide) ?_
    refine lv_goto (tgt := 55) hx hb dX2_isBetter_51 (by decide) ?_
    exact W.zret (v := (1 : Int32)) (ty := .boolean) hx hb hr rfl (fun t ht hW => ⟨⟨(1 : Int32), (), rfl, ⟨hR, rfl⟩, trivial⟩, hS.F ht⟩) hS.2.2 dX2_isBetter_55
  · rw [if_neg c_4] at hR
    refine lv_iload hx hb dX2_isBetter_20 (lv_at hl 0 rfl) ?_
    refine lv_if_ne (tgt := 54) hx hb dX2_isBetter_22 (by decide) (fun c_5 => ?_) (fun c_5 => ?_)
    · rw [if_neg c_5] at hR
      refine lv_iconst (v := (0 : Int32)) hx hb dX2_isBetter_54 (by decide) ?_
      exact W.zret (v := (0 : Int32)) (ty := .boolean) hx hb hr rfl (fun t ht hW => ⟨⟨(0 : Int32), (), rfl, ⟨hR, rfl⟩, trivial⟩, hS.F ht⟩) hS.2.2 dX2_isBetter_55
    · rw [if_pos c_5] at hR
      refine lv_aload_n hx hb dX2_isBetter_25 rfl (lv_at hl 1 rfl) ?_
      refine va_get (D := (dC, dI)) (ci := 2) (v := .ref (aS 0)) (C := RX2) (T := TX2) (N := 2) hx hb hts hin2 hown hK hP 0 rfl rfl 0 (by decide) (hw_ hts 1 rfl) (fun _ h9 => h9) rfl dX2_isBetter_26 ?_
      refine va_get (D := (dC, dI)) (ci := 5) (v := .ref (aS 2)) (C := RX5) (T := TX5) (N := 12) hx hb hts hin5 hown hK hP 4 rfl rfl 2 (by decide) (hw_ hts 2 rfl) (fun _ h9 => h9) rfl dX2_isBetter_29 ?_
      refine lv_iload_n hx hb dX2_isBetter_32 rfl (lv_at hl 3 rfl) ?_
      refine va_calli (va_runSN (As := [.ref (aS 2), .int p2]) (rest := []) ⟨hx, hb, hml, hown, hts⟩ (met_X6_at l dC dI cI cZ cS (aS 2) 12 (by decide) (S 2) H2.size p2) ⟨va_cnB 2 hts ggX2_isBetter_X6_at rfl rfl rfl (hN_9 hN) (hw_ hts 20 rfl) (by decide +kernel) ⟨Nat.le_of_ble_eq_true rfl, Nat.le_of_ble_eq_true rfl⟩, (hw_ hts 19 rfl), trivial⟩ (pS (wc := [((aS 2), .inl (cI, 12, .inl (S 2)))]) hK hP hD hN [6] rfl (by decide)) rfl rfl hl.1 rfl (lv_room (Nat.le_of_ble_eq_true rfl)) dX2_isBetter_33 ⟨Nat.zero_le _, Nat.zero_le _⟩) hS (fun q _ h => a0_in hS hA q h) (a0_in hS hA) (fun r6 u t H3 locs ht hvm hw hB hz1 hk1 hS => ?_)
      subst hw
      have hP := rdk hP hk1
      refine lv_aload_n hx hb dX2_isBetter_36 rfl (lv_at hl 1 rfl) ?_
      refine va_get (D := (dC, dI)) (ci := 2) (v := .ref (aS 0)) (C := RX2) (T := TX2) (N := 2) hx hb hts hin2 hown hK hP 0 rfl rfl 0 (by decide) (hw_ hts 1 rfl) (fun _ h9 => h9) rfl dX2_isBetter_37 ?_
      refine va_get (D := (dC, dI)) (ci := 5) (v := .ref (aS 2)) (C := RX5) (T := TX5) (N := 12) hx hb hts hin5 hown hK hP 4 rfl rfl 2 (by decide) (hw_ hts 2 rfl) (fun _ h9 => h9) rfl dX2_isBetter_40 ?_
      refine lv_iload_n hx hb dX2_isBetter_43 rfl (lv_at hl 4 rfl) ?_
      refine va_calli (va_runSN (As := [.ref (aS 2), .int p3]) (rest := [.int (f6_at 12 (S 2) p2)]) ⟨hx, hb, hml, hown, hts⟩ (met_X6_at l dC dI cI cZ cS (aS 2) 12 (by decide) (S 2) H3.size p3) ⟨va_cnB 2 hts ggX2_isBetter_X6_at rfl rfl rfl (hN_9 hN) (hw_ hts 20 rfl) (by decide +kernel) ⟨Nat.le_of_ble_eq_true rfl, Nat.le_of_ble_eq_true rfl⟩, (hw_ hts 19 rfl), trivial⟩ (pS (wc := [((aS 2), .inl (cI, 12, .inl (S 2)))]) hK hP hD hN [6] rfl (by decide)) rfl rfl hl.1 rfl (lv_room (Nat.le_of_ble_eq_true rfl)) dX2_isBetter_44 ⟨Nat.zero_le _, Nat.zero_le _⟩) hS (fun q _ h => a0_in hS hA q h) (a0_in hS hA) (fun r7 u t H4 locs ht hvm hw hB hz1 hk1 hS => ?_)
      subst hw
      have hP := rdk hP hk1
      refine lv_icmp_ge (tgt := 54) hx hb dX2_isBetter_47 (by decide) (fun c_8 => ?_) (fun c_8 => ?_)
      · rw [if_pos c_8] at hR
        refine lv_iconst (v := (0 : Int32)) hx hb dX2_isBetter_54 (by decide) ?_
        exact W.zret (v := (0 : Int32)) (ty := .boolean) hx hb hr rfl (fun t ht hW => ⟨⟨(0 : Int32), (), rfl, ⟨hR, rfl⟩, trivial⟩, hS.F ht⟩) hS.2.2 dX2_isBetter_55
      · rw [if_neg c_8] at hR
        refine lv_iconst (v := (1 : Int32)) hx hb dX2_isBetter_50 (by decide) ?_
        refine lv_goto (tgt := 55) hx hb dX2_isBetter_51 (by decide) ?_
        exact W.zret (v := (1 : Int32)) (ty := .boolean) hx hb hr rfl (fun t ht hW => ⟨⟨(1 : Int32), (), rfl, ⟨hR, rfl⟩, trivial⟩, hS.F ht⟩) hS.2.2 dX2_isBetter_55
abbrev rm_X2_reasonAgainst : Room := { frames := 4, cells := 0, slots := 0, locals := 102 }
abbrev q_X2_reasonAgainst (dC : Nat → ClassId) (dI : Nat → Nat → Nat) (cI cZ cS : ClassId) (aO : Nat → Nat) (aL : Nat → Nat) (aS : Nat → Nat)  (res : Int32 × Pic × Pic) (A : Nat → Prop) : Array Value → State → Outcome → State → Prop := va_Qi (fun (r : Int32) (u : Pic × Pic) => (r, u) = res) (fun u t => va_P (dC, dI) vwCl (wOu aO aS aL ++ (wLo cI aL u.1 ++ (wSt cI aS u.2))) t.heap) A
set_option maxHeartbeats 4000000 in
set_option maxRecDepth 100000 in
theorem met_X2_reasonAgainst (l : Launch) (dC : Nat → ClassId) (dI : Nat → Nat → Nat) (cI cZ cS : ClassId) (aO : Nat → Nat) (aL : Nat → Nat) (aS : Nat → Nat) (Y : Pic) (S : Pic) (sz : Nat) (p1 : Int32) (p2 : Int32) (p3 : Int32) : Met l yX2_reasonAgainst wsX2_reasonAgainst rm_X2_reasonAgainst (va_Pc [.ref (aO 0), .int p1, .int p2, .int p3] (pW (dC, dI) (tyS cI cZ cS) (wOu aO aS aL ++ (wLo cI aL Y ++ (wSt cI aS S))) sz)) (q_X2_reasonAgainst dC dI cI cZ cS aO aL aS (f2_reasonAgainst Y S p1 p2 p3) (va_A (wOu aO aS aL ++ (wLo cI aL Y ++ (wSt cI aS S))) sz)) 0 0 (va_A (wOu aO aS aL ++ (wLo cI aL Y ++ (wSt cI aS S))) sz) := by
  refine Met.ofW (cc := cX2_reasonAgainst) (maxL := 5) (ret := (some .int)) (by decide) rfl ?_
  intro p e s m args below meth c s₁ B hml hv
  obtain ⟨rfl, hsz, hP, hK, hD0, hN⟩ := hv
  have hx := B.exec
  have hb := B.bytes
  have hr := B.returns
  have hts := atoms_spec (ws := wsX2_reasonAgainst) B.pre
  have hown : s.vm.findClass RX2 = some m.cls := findClass_of_methodNamed B.named
  have hlocks := B.notSynchronized
  subst hsz
  have hD := hD0.self (sz := s.heap.size)
  generalize hAe : va_A (wOu aO aS aL ++ (wLo cI aL Y ++ (wSt cI aS S))) s.heap.size = A at hD ⊢
  have hA : ∀ q : Nat, s.heap.size ≤ q → A q := fun q h => by rw [← hAe]; exact Or.inr h
  have hS : va_S A s.heap s.heap [] := va_S.rf
  have hP : va_P (dC, dI) vwCl (wOu aO aS aL ++ (wLo cI aL Y ++ (wSt cI aS S))) s.heap := hP
  generalize hR : f2_reasonAgainst Y S p1 p2 p3 = res
  rw [f2_reasonAgainst] at hR
  have hin2 : ∀ w ∈ wsX20, w ∈ wsX2_reasonAgainst := by decide +kernel
  have hin5 : ∀ w ∈ wsX50, w ∈ wsX2_reasonAgainst := by decide +kernel
  have hl := lv_entry ([.ref (aO 0), .int p1, .int p2, .int p3]) (n := 5) (Nat.le_of_ble_eq_true rfl)
  rw [lg_entry_eq]
  generalize (lg_sl ([.ref (aO 0), .int p1, .int p2, .int p3]) ++ List.replicate (5 - (lg_sl ([.ref (aO 0), .int p1, .int p2, .int p3])).length) Slot.unset).toArray = ls at hl ⊢
  have hl : lv_has ls 5 [(0, .ref (aO 0)), (1, .int p1), (2, .int p2), (3, .int p3)] := hl
  refine lv_iload_n hx hb dX2_reasonAgainst_0 rfl (lv_at hl 1 rfl) ?_
  refine lv_iload_n hx hb dX2_reasonAgainst_1 rfl (lv_at hl 2 rfl) ?_
  refine va_calli (va_runSN (As := [.int p1, .int p2]) (rest := []) ⟨hx, hb, hml, hown, hts⟩ (met_X6_cellOf l dC dI cI cZ cS s.heap.size p1 p2) ⟨va_cnB 2 hts ggX2_reasonAgainst_X6_cellOf rfl rfl rfl (hN_8 hN) (hw_ hts 8 rfl) (by decide +kernel) ⟨Nat.le_of_ble_eq_true rfl, Nat.le_of_ble_eq_true rfl⟩, (hw_ hts 7 rfl), trivial⟩ (pS (wc := []) hK hP hD hN [] rfl (by decide)) rfl rfl hl.1 rfl (lv_room (Nat.le_of_ble_eq_true rfl)) dX2_reasonAgainst_2 ⟨Nat.zero_le _, Nat.zero_le _⟩) hS (fun q _ h => a0_in hS hA q h) (a0_in hS hA) (fun r1 u t H1 locs ht hvm hw hB hz1 hk1 hS => ?_)
  subst hw
  have hP := rdk hP hk1
  refine lv_topi (fun v2 hv2 => ?_)
  have hR := bd_n hv2 hR
  refine lv_istore (lv' := [(4, .int v2), (0, .ref (aO 0)), (1, .int p1), (2, .int p2), (3, .int p3)]) hx hb dX2_reasonAgainst_5 hl (by decide) rfl (fun ls hl => ?_)
  refine lv_aload_n hx hb dX2_reasonAgainst_7 rfl (lv_at hl 1 rfl) ?_
  refine va_get (D := (dC, dI)) (ci := 2) (v := .ref (aS 0)) (C := RX2) (T := TX2) (N := 2) hx hb hts hin2 hown hK hP 0 rfl rfl 0 (by decide) (hw_ hts 1 rfl) (fun _ h9 => h9) rfl dX2_reasonAgainst_8 ?_
  refine va_get (D := (dC, dI)) (ci := 5) (v := .ref (aS 11)) (C := RX5) (T := TX5) (N := 12) hx hb hts hin5 hown hK hP 4 rfl rfl 11 (by decide) (hw_ hts 2 rfl) (fun _ h9 => h9) rfl dX2_reasonAgainst_11 ?_
  refine lv_iload hx hb dX2_reasonAgainst_14 (lv_at hl 0 rfl) ?_
  refine va_calli (va_runSN (As := [.ref (aS 11), .int v2]) (rest := []) ⟨hx, hb, hml, hown, hts⟩ (met_X6_at l dC dI cI cZ cS (aS 11) 84 (by decide) (S 11) H1.size v2) ⟨va_cnB 2 hts ggX2_reasonAgainst_X6_at rfl rfl rfl (hN_9 hN) (hw_ hts 8 rfl) (by decide +kernel) ⟨Nat.le_of_ble_eq_true rfl, Nat.le_of_ble_eq_true rfl⟩, (hw_ hts 10 rfl), trivial⟩ (pS (wc := [((aS 11), .inl (cI, 84, .inl (S 11)))]) hK hP hD hN [14] rfl (by decide)) rfl rfl hl.1 rfl (lv_room (Nat.le_of_ble_eq_true rfl)) dX2_reasonAgainst_16 ⟨Nat.zero_le _, Nat.zero_le _⟩) hS (fun q _ h => a0_in hS hA q h) (a0_in hS hA) (fun r3 u t H2 locs ht hvm hw hB hz1 hk1 hS => ?_)
  subst hw
  have hP := rdk hP hk1
  refine lv_iconst (v := (-1 : Int32)) hx hb dX2_reasonAgainst_19 (by decide) ?_
  refine lv_icmp_eq (tgt := 25) hx hb dX2_reasonAgainst_20 (by decide) (fun c_4 => ?_) (fun c_4 => ?_)
  · rw [if_pos c_4] at hR
    refine lv_aload_n hx hb dX2_reasonAgainst_25 rfl (lv_at hl 1 rfl) ?_
    refine va_get (D := (dC, dI)) (ci := 2) (v := .ref (aS 0)) (C := RX2) (T := TX2) (N := 2) hx hb hts hin2 hown hK hP 0 rfl rfl 0 (by decide) (hw_ hts 1 rfl) (fun _ h9 => h9) rfl dX2_reasonAgainst_26 ?_
    refine va_get (D := (dC, dI)) (ci := 5) (v := .ref (aS 1)) (C := RX5) (T := TX5) (N := 12) hx hb hts hin5 hown hK hP 4 rfl rfl 1 (by decide) (hw_ hts 3 rfl) (fun _ h9 => h9) rfl dX2_reasonAgainst_29 ?_
    refine lv_iload_n hx hb dX2_reasonAgainst_32 rfl (lv_at hl 4 rfl) ?_
    refine va_calli (va_runSN (As := [.ref (aS 1), .int p3]) (rest := []) ⟨hx, hb, hml, hown, hts⟩ (met_X6_at l dC dI cI cZ cS (aS 1) 12 (by decide) (S 1) H2.size p3) ⟨va_cnB 2 hts ggX2_reasonAgainst_X6_at rfl rfl rfl (hN_9 hN) (hw_ hts 8 rfl) (by decide +kernel) ⟨Nat.le_of_ble_eq_true rfl, Nat.le_of_ble_eq_true rfl⟩, (hw_ hts 10 rfl), trivial⟩ (pS (wc := [((aS 1), .inl (cI, 12, .inl (S 1)))]) hK hP hD hN [5] rfl (by decide)) rfl rfl hl.1 rfl (lv_room (Nat.le_of_ble_eq_true rfl)) dX2_reasonAgainst_33 ⟨Nat.zero_le _, Nat.zero_le _⟩) hS (fun q _ h => a0_in hS hA q h) (a0_in hS hA) (fun r5 u t H3 locs ht hvm hw hB hz1 hk1 hS => ?_)
    subst hw
    have hP := rdk hP hk1
    refine lv_iload_n hx hb dX2_reasonAgainst_36 rfl (lv_at hl 3 rfl) ?_
    refine lv_icmp_eq (tgt := 42) hx hb dX2_reasonAgainst_37 (by decide) (fun c_6 => ?_) (fun c_6 => ?_)
    · rw [if_pos c_6] at hR
      refine lv_aload_n hx hb dX2_reasonAgainst_42 rfl (lv_at hl 1 rfl) ?_
      refine va_get (D := (dC, dI)) (ci := 2) (v := .ref (aS 0)) (C := RX2) (T := TX2) (N := 2) hx hb hts hin2 hown hK hP 0 rfl rfl 0 (by decide) (hw_ hts 1 rfl) (fun _ h9 => h9) rfl dX2_reasonAgainst_43 ?_
      refine lv_iload_n hx hb dX2_reasonAgainst_46 rfl (lv_at hl 2 rfl) ?_
      refine lv_iload_n hx hb dX2_reasonAgainst_47 rfl (lv_at hl 4 rfl) ?_
      refine va_calli (va_runV (As := [.int p1, .int p3]) (rest := []) ⟨hx, hb, hml, hown, hts⟩ (met_X5_isVetoed l dC dI cI cZ cS aS S H3.size p1 p3) (cwV 2 hts gX2_reasonAgainst_X5_isVetoed rfl rfl rfl (by decide +kernel) ⟨Nat.le_of_ble_eq_true rfl, Nat.le_of_ble_eq_true rfl⟩) (pV (wc := wSt cI aS S) (ci := 5) (q0 := 4) hK hP hD hN [4, 5, 6, 7, 8, 9, 10, 11, 12, 13, 14] rfl (by decide) rfl rfl) rfl rfl hl.1 rfl (lv_room (Nat.le_of_ble_eq_true rfl)) dX2_reasonAgainst_48 ⟨Nat.zero_le _, Nat.zero_le _⟩) hS (fun q _ h => a0_in hS hA q h) (a0_in hS hA) (fun r7 u t H4 locs ht hvm hw hB hz1 hk1 hS => ?_)
      obtain ⟨hw, nb8⟩ := hw
      have hR := bd_n hw hR
      have hP := rdk hP hk1
      refine lv_if_eq (tgt := 56) hx hb dX2_reasonAgainst_51 (by decide) (fun c_9 => ?_) (fun c_9 => ?_)
      · rw [if_pos c_9] at hR
        refine lv_aload_n hx hb dX2_reasonAgainst_56 rfl (lv_at hl 1 rfl) ?_
        refine va_get (D := (dC, dI)) (ci := 2) (v := .ref (aS 0)) (C := RX2) (T := TX2) (N := 2) hx hb hts hin2 hown hK hP 0 rfl rfl 0 (by decide) (hw_ hts 1 rfl) (fun _ h9 => h9) rfl dX2_reasonAgainst_57 ?_
        refine lv_iload_n hx hb dX2_reasonAgainst_60 rfl (lv_at hl 2 rfl) ?_
        refine lv_bipush (v := (7 : Int32)) hx hb dX2_reasonAgainst_61 (by decide) ?_
        refine lv_idiv hx hb dX2_reasonAgainst_63 (by decide) ?_
        refine va_calli (va_runV (As := [.int (p1 / (7 : Int32))]) (rest := []) ⟨hx, hb, hml, hown, hts⟩ (met_X5_weekCost l dC dI cI cZ cS aS S H4.size (p1 / (7 : Int32))) (cwV 1 hts gX2_reasonAgainst_X5_weekCost rfl rfl rfl (by decide +kernel) ⟨Nat.le_of_ble_eq_true rfl, Nat.le_of_ble_eq_true rfl⟩) (pV (wc := wSt cI aS S) (ci := 5) (q0 := 4) hK hP hD hN [4, 5, 6, 7, 8, 9, 10, 11, 12, 13, 14] rfl (by decide) rfl rfl) rfl rfl hl.1 rfl (lv_room (Nat.le_of_ble_eq_true rfl)) dX2_reasonAgainst_64 ⟨Nat.zero_le _, Nat.zero_le _⟩) hS (fun q _ h => a0_in hS hA q h) (a0_in hS hA) (fun r10 u t H5 locs ht hvm hw hB hz1 hk1 hS => ?_)
        have hR := bd_n hw hR
        have hP := rdk hP hk1
        refine lv_aload_n hx hb dX2_reasonAgainst_67 rfl (lv_at hl 1 rfl) ?_
        refine va_get (D := (dC, dI)) (ci := 2) (v := .ref (aS 0)) (C := RX2) (T := TX2) (N := 2) hx hb hts hin2 hown hK hP 0 rfl rfl 0 (by decide) (hw_ hts 1 rfl) (fun _ h9 => h9) rfl dX2_reasonAgainst_68 ?_
        refine va_get (D := (dC, dI)) (ci := 5) (v := .ref (aS 2)) (C := RX5) (T := TX5) (N := 12) hx hb hts hin5 hown hK hP 4 rfl rfl 2 (by decide) (hw_ hts 4 rfl) (fun _ h9 => h9) rfl dX2_reasonAgainst_71 ?_
        refine lv_iload_n hx hb dX2_reasonAgainst_74 rfl (lv_at hl 4 rfl) ?_
        refine va_calli (va_runSN (As := [.ref (aS 2), .int p3]) (rest := [.int r10]) ⟨hx, hb, hml, hown, hts⟩ (met_X6_at l dC dI cI cZ cS (aS 2) 12 (by decide) (S 2) H5.size p3) ⟨va_cnB 2 hts ggX2_reasonAgainst_X6_at rfl rfl rfl (hN_9 hN) (hw_ hts 8 rfl) (by decide +kernel) ⟨Nat.le_of_ble_eq_true rfl, Nat.le_of_ble_eq_true rfl⟩, (hw_ hts 10 rfl), trivial⟩ (pS (wc := [((aS 2), .inl (cI, 12, .inl (S 2)))]) hK hP hD hN [6] rfl (by decide)) rfl rfl hl.1 rfl (lv_room (Nat.le_of_ble_eq_true rfl)) dX2_reasonAgainst_75 ⟨Nat.zero_le _, Nat.zero_le _⟩) hS (fun q _ h => a0_in hS hA q h) (a0_in hS hA) (fun r11 u t H6 locs ht hvm hw hB hz1 hk1 hS => ?_)
        subst hw
        have hP := rdk hP hk1
        refine lv_iadd hx hb dX2_reasonAgainst_78 ?_
        refine lv_aload_n hx hb dX2_reasonAgainst_79 rfl (lv_at hl 1 rfl) ?_
        refine va_get (D := (dC, dI)) (ci := 2) (v := .ref (aS 0)) (C := RX2) (T := TX2) (N := 2) hx hb hts hin2 hown hK hP 0 rfl rfl 0 (by decide) (hw_ hts 1 rfl) (fun _ h9 => h9) rfl dX2_reasonAgainst_80 ?_
        refine va_get (D := (dC, dI)) (ci := 5) (v := .ref (aS 10)) (C := RX5) (T := TX5) (N := 12) hx hb hts hin5 hown hK hP 4 rfl rfl 10 (by decide) (hw_ hts 5 rfl) (fun _ h9 => h9) rfl dX2_reasonAgainst_83 ?_
        refine lv_iconst (v := (2 : Int32)) hx hb dX2_reasonAgainst_86 (by decide) ?_
        refine va_calli (va_runSN (As := [.ref (aS 10), .int (2 : Int32)]) (rest := [.int (r10 + (f6_at 12 (S 2) p3))]) ⟨hx, hb, hml, hown, hts⟩ (met_X6_at l dC dI cI cZ cS (aS 10) 3 (by decide) (S 10) H6.size (2 : Int32)) ⟨va_cnB 2 hts ggX2_reasonAgainst_X6_at rfl rfl rfl (hN_9 hN) (hw_ hts 8 rfl) (by decide +kernel) ⟨Nat.le_of_ble_eq_true rfl, Nat.le_of_ble_eq_true rfl⟩, (hw_ hts 10 rfl), trivial⟩ (pS (wc := [((aS 10), .inl (cI, 3, .inl (S 10)))]) hK hP hD hN [13] rfl (by decide)) rfl rfl hl.1 rfl (lv_room (Nat.le_of_ble_eq_true rfl)) dX2_reasonAgainst_87 ⟨Nat.zero_le _, Nat.zero_le _⟩) hS (fun q _ h => a0_in hS hA q h) (a0_in hS hA) (fun r12 u t H7 locs ht hvm hw hB hz1 hk1 hS => ?_)
        subst hw
        have hP := rdk hP hk1
        refine lv_icmp_le (tgt := 95) hx hb dX2_reasonAgainst_90 (by decide) (fun c_13 => ?_) (fun c_13 => ?_)
        · rw [if_pos c_13] at hR
          refine lv_aload_n hx hb dX2_reasonAgainst_95 rfl (lv_at hl 1 rfl) ?_
          refine va_get (D := (dC, dI)) (ci := 2) (v := .ref (aL 0)) (C := RX2) (T := TX2) (N := 2) hx hb hts hin2 hown hK hP 0 rfl rfl 1 (by decide) (hw_ hts 6 rfl) (fun _ h9 => h9) rfl dX2_reasonAgainst_96 ?_
          refine lv_aload_n hx hb dX2_reasonAgainst_99 rfl (lv_at hl 1 rfl) ?_
          refine va_get (D := (dC, dI)) (ci := 2) (v := .ref (aS 0)) (C := RX2) (T := TX2) (N := 2) hx hb hts hin2 hown hK hP 0 rfl rfl 0 (by decide) (hw_ hts 1 rfl) (fun _ h9 => h9) rfl dX2_reasonAgainst_100 ?_
          refine lv_iload hx hb dX2_reasonAgainst_103 (lv_at hl 0 rfl) ?_
          refine lv_iload_n hx hb dX2_reasonAgainst_105 rfl (lv_at hl 4 rfl) ?_
          have hF := va_free (wc := wLo cI aL Y ++ (wSt cI aS S)) hD hS hA [1, 2, 3, 4, 5, 6, 7, 8, 9, 10, 11, 12, 13, 14] rfl
          refine va_calli (va_runV (As := [.ref (aS 0), .int v2, .int p3]) (rest := []) ⟨hx, hb, hml, hown, hts⟩ (met_X1_staySoundWith l dC dI cI cZ cS aL aS Y S H7.size v2 p3) (cwV 3 hts gX2_reasonAgainst_X1_staySoundWith rfl rfl rfl (by decide +kernel) ⟨Nat.le_of_ble_eq_true rfl, Nat.le_of_ble_eq_true rfl⟩) (pV (wc := wLo cI aL Y ++ (wSt cI aS S)) (ci := 1) (q0 := 1) hK hP hD hN [1, 2, 3, 4, 5, 6, 7, 8, 9, 10, 11, 12, 13, 14] rfl (by decide) rfl rfl) rfl rfl hl.1 rfl (lv_room (Nat.le_of_ble_eq_true rfl)) dX2_reasonAgainst_106 ⟨Nat.zero_le _, Nat.zero_le _⟩) hS (fun q _ h => hF q h) hF (fun r14 u t H8 locs ht hvm hw hB hz1 hk1 hS => ?_)
          obtain ⟨u15, u16⟩ := u
          obtain ⟨hw, nb17⟩ := hw
          try dsimp only at hw hB
          rw [ht] at hB
          have hR := bd3_n hw hR
          have hP := wrk (w2 := wOu aO aS aL ++ (wLo cI aL u15 ++ (wSt cI aS u16))) hP hD [1, 2, 3, 4, 5, 6, 7, 8, 9, 10, 11, 12, 13, 14] rfl (by decide) hk1 hB rfl rfl
          have hD := D_addr (w1 := wOu aO aS aL ++ (wLo cI aL u15 ++ (wSt cI aS u16))) hD rfl
          refine lv_if_eq (tgt := 116) hx hb dX2_reasonAgainst_109 (by decide) (fun c_18 => ?_) (fun c_18 => ?_)
          · rw [if_pos c_18] at hR
            refine lv_iconst (v := (5 : Int32)) hx hb dX2_reasonAgainst_116 (by decide) ?_
            exact W.iret (v := (5 : Int32)) hx hb hr (fun t ht hW => ⟨⟨(5 : Int32), (u15, u16), rfl, hR, P_at ht hP⟩, hS.F ht⟩) hS.2.2 dX2_reasonAgainst_117
          · rw [if_neg c_18] at hR
            refine lv_iconst (v := (0 : Int32)) hx hb dX2_reasonAgainst_112 (by decide) ?_
            refine lv_goto (tgt := 117) hx hb dX2_reasonAgainst_113 (by decide) ?_
            exact W.iret (v := (0 : Int32)) hx hb hr (fun t ht hW => ⟨⟨(0 : Int32), (u15, u16), rfl, hR, P_at ht hP⟩, hS.F ht⟩) hS.2.2 dX2_reasonAgainst_117
        · rw [if_neg c_13] at hR
          refine lv_iconst (v := (4 : Int32)) hx hb dX2_reasonAgainst_93 (by decide) ?_
          exact W.iret (v := (4 : Int32)) hx hb hr (fun t ht hW => ⟨⟨(4 : Int32), (Y, S), rfl, hR, P_at ht hP⟩, hS.F ht⟩) hS.2.2 dX2_reasonAgainst_94
      · rw [if_neg c_9] at hR
        refine lv_iconst (v := (3 : Int32)) hx hb dX2_reasonAgainst_54 (by decide) ?_
        exact W.iret (v := (3 : Int32)) hx hb hr (fun t ht hW => ⟨⟨(3 : Int32), (Y, S), rfl, hR, P_at ht hP⟩, hS.F ht⟩) hS.2.2 dX2_reasonAgainst_55
    · rw [if_neg c_6] at hR
      refine lv_iconst (v := (2 : Int32)) hx hb dX2_reasonAgainst_40 (by decide) ?_
      exact W.iret (v := (2 : Int32)) hx hb hr (fun t ht hW => ⟨⟨(2 : Int32), (Y, S), rfl, hR, P_at ht hP⟩, hS.F ht⟩) hS.2.2 dX2_reasonAgainst_41
  · rw [if_neg c_4] at hR
    refine lv_iconst (v := (1 : Int32)) hx hb dX2_reasonAgainst_23 (by decide) ?_
    exact W.iret (v := (1 : Int32)) hx hb hr (fun t ht hW => ⟨⟨(1 : Int32), (Y, S), rfl, hR, P_at ht hP⟩, hS.F ht⟩) hS.2.2 dX2_reasonAgainst_24
abbrev rm_X2_bestDish : Room := { frames := 5, cells := 0, slots := 0, locals := 126 }
abbrev q_X2_bestDish (dC : Nat → ClassId) (dI : Nat → Nat → Nat) (cI cZ cS : ClassId) (aO : Nat → Nat) (aL : Nat → Nat) (aS : Nat → Nat)  (res : Int32 × Pic × Pic) (A : Nat → Prop) : Array Value → State → Outcome → State → Prop := va_Qi (fun (r : Int32) (u : Pic × Pic) => (r, u) = res) (fun u t => va_P (dC, dI) vwCl (wOu aO aS aL ++ (wLo cI aL u.1 ++ (wSt cI aS u.2))) t.heap) A
set_option maxHeartbeats 4000000 in
set_option maxRecDepth 100000 in
theorem met_X2_bestDish (l : Launch) (dC : Nat → ClassId) (dI : Nat → Nat → Nat) (cI cZ cS : ClassId) (aO : Nat → Nat) (aL : Nat → Nat) (aS : Nat → Nat) (Y : Pic) (S : Pic) (sz : Nat) (p1 : Int32) (p2 : Int32) (res : Int32 × Pic × Pic) (hR : f2_bestDish Y S p1 p2 = some res) : Met l yX2_bestDish wsX2_bestDish rm_X2_bestDish (va_Pc [.ref (aO 0), .int p1, .int p2] (pW (dC, dI) (tyS cI cZ cS) (wOu aO aS aL ++ (wLo cI aL Y ++ (wSt cI aS S))) sz)) (q_X2_bestDish dC dI cI cZ cS aO aL aS res (va_A (wOu aO aS aL ++ (wLo cI aL Y ++ (wSt cI aS S))) sz)) 0 0 (va_A (wOu aO aS aL ++ (wLo cI aL Y ++ (wSt cI aS S))) sz) := by
  refine Met.ofW (cc := cX2_bestDish) (maxL := 5) (ret := (some .int)) (by decide) rfl ?_
  intro p e s m args below meth c s₁ B hml hv
  obtain ⟨rfl, hsz, hP, hK, hD0, hN⟩ := hv
  have hx := B.exec
  have hb := B.bytes
  have hr := B.returns
  have hts := atoms_spec (ws := wsX2_bestDish) B.pre
  have hown : s.vm.findClass RX2 = some m.cls := findClass_of_methodNamed B.named
  have hlocks := B.notSynchronized
  subst hsz
  have hD := hD0.self (sz := s.heap.size)
  generalize hAe : va_A (wOu aO aS aL ++ (wLo cI aL Y ++ (wSt cI aS S))) s.heap.size = A at hD ⊢
  have hA : ∀ q : Nat, s.heap.size ≤ q → A q := fun q h => by rw [← hAe]; exact Or.inr h
  have hS : va_S A s.heap s.heap [] := va_S.rf
  have hP : va_P (dC, dI) vwCl (wOu aO aS aL ++ (wLo cI aL Y ++ (wSt cI aS S))) s.heap := hP
  rw [f2_bestDish] at hR
  have hin2 : ∀ w ∈ wsX20, w ∈ wsX2_bestDish := by decide +kernel
  have hin5 : ∀ w ∈ wsX50, w ∈ wsX2_bestDish := by decide +kernel
  have hl := lv_entry ([.ref (aO 0), .int p1, .int p2]) (n := 5) (Nat.le_of_ble_eq_true rfl)
  rw [lg_entry_eq]
  generalize (lg_sl ([.ref (aO 0), .int p1, .int p2]) ++ List.replicate (5 - (lg_sl ([.ref (aO 0), .int p1, .int p2])).length) Slot.unset).toArray = ls at hl ⊢
  have hl : lv_has ls 5 [(0, .ref (aO 0)), (1, .int p1), (2, .int p2)] := hl
  refine lv_iconst (v := (-1 : Int32)) hx hb dX2_bestDish_0 (by decide) ?_
  refine lv_istore_n (lv' := [(3, .int (-1 : Int32)), (0, .ref (aO 0)), (1, .int p1), (2, .int p2)]) hx hb dX2_bestDish_1 rfl hl (by decide) rfl (fun ls hl => ?_)
  refine lv_iconst (v := (0 : Int32)) hx hb dX2_bestDish_2 (by decide) ?_
  refine lv_istore (lv' := [(4, .int (0 : Int32)), (3, .int (-1 : Int32)), (0, .ref (aO 0)), (1, .int p1), (2, .int p2)]) hx hb dX2_bestDish_3 hl (by decide) rfl (fun ls hl => ?_)
  have LOOP5 : ∀ (k : Int32 → Pic → Pic → (Option (Int32 × Pic × Pic))), (∀ (x3_5 : Int32) (Y_5 : Pic) (S_5 : Pic) (H1 : Heap) (locs : List Loc), k x3_5 Y_5 S_5 = some res → va_P (dC, dI) vwCl (wOu aO aS aL ++ (wLo cI aL Y_5 ++ (wSt cI aS S_5))) H1 → va_D A (wOu aO aS aL ++ (wLo cI aL Y_5 ++ (wSt cI aS S_5))) → va_S A s.heap H1 locs → ∀ (ls : Array Slot), lv_has ls 5 [(3, .int x3_5)] → W p l e (headSpec wsX2_bestDish rm_X2_bestDish).room s m ([.ref (aO 0), .int p1, .int p2] : List Value).toArray below meth c H1 locs 0 0 (MQ below (q_X2_bestDish dC dI cI cZ cS aO aL aS res A) ([.ref (aO 0), .int p1, .int p2] : List Value).toArray s 0 0 A) (F0 m 53 ls [])) → ∀ (nf : Nat) (x3_5 : Int32) (x4_5 : Int32) (Y_5 : Pic) (S_5 : Pic) (H1 : Heap) (locs : List Loc), f2_bestDish_L5 p1 p2 nf x3_5 x4_5 Y_5 S_5 k = some res → va_P (dC, dI) vwCl (wOu aO aS aL ++ (wLo cI aL Y_5 ++ (wSt cI aS S_5))) H1 → va_D A (wOu aO aS aL ++ (wLo cI aL Y_5 ++ (wSt cI aS S_5))) → va_S A s.heap H1 locs → ∀ (ls : Array Slot), lv_has ls 5 [(3, .int x3_5), (4, .int x4_5), (0, .ref (aO 0)), (1, .int p1), (2, .int p2)] → W p l e (headSpec wsX2_bestDish rm_X2_bestDish).room s m ([.ref (aO 0), .int p1, .int p2] : List Value).toArray below meth c H1 locs 0 0 (MQ below (q_X2_bestDish dC dI cI cZ cS aO aL aS res A) ([.ref (aO 0), .int p1, .int p2] : List Value).toArray s 0 0 A) (F0 m 5 ls []) := by
    intro k hk nf
    induction nf with
    | zero =>
      intro x3_5 x4_5 Y_5 S_5 H1 locs hR hP hD hS ls hl
      rw [f2_bestDish_L5] at hR
      cases hR
    | succ nf ih =>
      intro x3_5 x4_5 Y_5 S_5 H1 locs hR hP hD hS ls hl
      rw [f2_bestDish_L5] at hR
      refine lv_iload hx hb dX2_bestDish_5 (lv_at hl 1 rfl) ?_
      refine lv_aload_n hx hb dX2_bestDish_7 rfl (lv_at hl 2 rfl) ?_
      refine va_get (D := (dC, dI)) (ci := 2) (v := .ref (aS 0)) (C := RX2) (T := TX2) (N := 2) hx hb hts hin2 hown hK hP 0 rfl rfl 0 (by decide) (hw_ hts 1 rfl) (fun _ h9 => h9) rfl dX2_bestDish_8 ?_
      refine va_get (D := (dC, dI)) (ci := 5) (v := .int ((S_5 0) 0)) (C := RX5) (T := TX5) (N := 12) hx hb hts hin5 hown hK hP 4 rfl rfl 0 (by decide) (hw_ hts 2 rfl) (fun _ h9 => h9) rfl dX2_bestDish_11 ?_
      refine lv_icmp_ge (tgt := 53) hx hb dX2_bestDish_14 (by decide) (fun c_1 => ?_) (fun c_1 => ?_)
      · rw [if_pos c_1] at hR
        exact hk x3_5 Y_5 S_5 _ _  hR hP hD hS ls (lv_sub hl [0] rfl)
      · rw [if_neg c_1] at hR
        refine lv_aload_n hx hb dX2_bestDish_17 rfl (lv_at hl 2 rfl) ?_
        refine lv_iload_n hx hb dX2_bestDish_18 rfl (lv_at hl 3 rfl) ?_
        refine lv_iload_n hx hb dX2_bestDish_19 rfl (lv_at hl 4 rfl) ?_
        refine lv_iload hx hb dX2_bestDish_20 (lv_at hl 1 rfl) ?_
        have hF := va_free (wc := wOu aO aS aL ++ (wLo cI aL Y_5 ++ (wSt cI aS S_5))) hD hS hA [0, 1, 2, 3, 4, 5, 6, 7, 8, 9, 10, 11, 12, 13, 14] rfl
        refine va_calli (va_runV (As := [.int p1, .int p2, .int x4_5]) (rest := []) ⟨hx, hb, hml, hown, hts⟩ (met_X2_reasonAgainst l dC dI cI cZ cS aO aL aS Y_5 S_5 H1.size p1 p2 x4_5) (cwV 3 hts gX2_bestDish_X2_reasonAgainst rfl rfl rfl (by decide +kernel) ⟨Nat.le_of_ble_eq_true rfl, Nat.le_of_ble_eq_true rfl⟩) (pV (wc := wOu aO aS aL ++ (wLo cI aL Y_5 ++ (wSt cI aS S_5))) (ci := 2) (q0 := 0) hK hP hD hN [0, 1, 2, 3, 4, 5, 6, 7, 8, 9, 10, 11, 12, 13, 14] rfl (by decide) rfl rfl) rfl rfl hl.1 rfl (lv_room (Nat.le_of_ble_eq_true rfl)) dX2_bestDish_22 ⟨Nat.zero_le _, Nat.zero_le _⟩) hS (fun q _ h => hF q h) hF (fun r2 u t H2 locs ht hvm hw hB hz1 hk1 hS => ?_)
        obtain ⟨u3, u4⟩ := u
        try dsimp only at hw hB
        rw [ht] at hB
        have hR := bd3_n hw hR
        have hP := wrk (w2 := wOu aO aS aL ++ (wLo cI aL u3 ++ (wSt cI aS u4))) hP hD [0, 1, 2, 3, 4, 5, 6, 7, 8, 9, 10, 11, 12, 13, 14] rfl (by decide) hk1 hB rfl rfl
        have hD := D_addr (w1 := wOu aO aS aL ++ (wLo cI aL u3 ++ (wSt cI aS u4))) hD rfl
        refine lv_if_ne (tgt := 47) hx hb dX2_bestDish_25 (by decide) (fun c_5 => ?_) (fun c_5 => ?_)
        · rw [if_neg c_5] at hR
          refine lv_iinc (v := (x4_5 + 1)) (lv' := [(4, .int (x4_5 + 1)), (3, .int x3_5), (0, .ref (aO 0)), (1, .int p1), (2, .int p2)]) hx hb dX2_bestDish_47 hl (k := 1) rfl rfl (by decide) rfl (fun ls hl => ?_)
          refine lv_goto (tgt := 5) hx hb dX2_bestDish_50 (by decide) ?_
          exact ih x3_5 (x4_5 + 1) u3 u4 _ _  hR hP hD hS ls (lv_sub hl [1, 0, 2, 3, 4] rfl)
        · rw [if_pos c_5] at hR
          refine lv_iload_n hx hb dX2_bestDish_28 rfl (lv_at hl 0 rfl) ?_
          refine lv_iconst (v := (-1 : Int32)) hx hb dX2_bestDish_29 (by decide) ?_
          refine lv_icmp_eq (tgt := 44) hx hb dX2_bestDish_30 (by decide) (fun c_6 => ?_) (fun c_6 => ?_)
          · rw [if_pos c_6] at hR
            refine lv_iload hx hb dX2_bestDish_44 (lv_at hl 1 rfl) ?_
            refine lv_istore_n (lv' := [(3, .int x4_5), (4, .int x4_5), (0, .ref (aO 0)), (1, .int p1), (2, .int p2)]) hx hb dX2_bestDish_46 rfl hl (by decide) rfl (fun ls hl => ?_)
            refine lv_iinc (v := (x4_5 + 1)) (lv' := [(4, .int (x4_5 + 1)), (3, .int x4_5), (0, .ref (aO 0)), (1, .int p1), (2, .int p2)]) hx hb dX2_bestDish_47 hl (k := 1) rfl rfl (by decide) rfl (fun ls hl => ?_)
            refine lv_goto (tgt := 5) hx hb dX2_bestDish_50 (by decide) ?_
            exact ih x4_5 (x4_5 + 1) u3 u4 _ _  hR hP hD hS ls (lv_sub hl [1, 0, 2, 3, 4] rfl)
          · rw [if_neg c_6] at hR
            refine lv_aload_n hx hb dX2_bestDish_33 rfl (lv_at hl 2 rfl) ?_
            refine lv_iload_n hx hb dX2_bestDish_34 rfl (lv_at hl 3 rfl) ?_
            refine lv_iload hx hb dX2_bestDish_35 (lv_at hl 1 rfl) ?_
            refine lv_iload_n hx hb dX2_bestDish_37 rfl (lv_at hl 0 rfl) ?_
            refine va_calli (va_runV (As := [.int p1, .int x4_5, .int x3_5]) (rest := []) ⟨hx, hb, hml, hown, hts⟩ (met_X2_isBetter l dC dI cI cZ cS aO aL aS u3 u4 H2.size p1 x4_5 x3_5) (cwV 3 hts gX2_bestDish_X2_isBetter rfl rfl rfl (by decide +kernel) ⟨Nat.le_of_ble_eq_true rfl, Nat.le_of_ble_eq_true rfl⟩) (pV (wc := wOu aO aS aL ++ (wLo cI aL u3 ++ (wSt cI aS u4))) (ci := 2) (q0 := 0) hK hP hD hN [0, 1, 2, 3, 4, 5, 6, 7, 8, 9, 10, 11, 12, 13, 14] rfl (by decide) rfl rfl) rfl rfl hl.1 rfl (lv_room (Nat.le_of_ble_eq_true rfl)) dX2_bestDish_38 ⟨Nat.zero_le _, Nat.zero_le _⟩) hS (fun q _ h => a0_in hS hA q h) (a0_in hS hA) (fun r7 u t H3 locs ht hvm hw hB hz1 hk1 hS => ?_)
            obtain ⟨hw, nb8⟩ := hw
            have hR := bd_n hw hR
            have hP := rdk hP hk1
            refine lv_if_eq (tgt := 47) hx hb dX2_bestDish_41 (by decide) (fun c_9 => ?_) (fun c_9 => ?_)
            · rw [if_pos c_9] at hR
              refine lv_iinc (v := (x4_5 + 1)) (lv' := [(4, .int (x4_5 + 1)), (3, .int x3_5), (0, .ref (aO 0)), (1, .int p1), (2, .int p2)]) hx hb dX2_bestDish_47 hl (k := 1) rfl rfl (by decide) rfl (fun ls hl => ?_)
              refine lv_goto (tgt := 5) hx hb dX2_bestDish_50 (by decide) ?_
              exact ih x3_5 (x4_5 + 1) u3 u4 _ _  hR hP hD hS ls (lv_sub hl [1, 0, 2, 3, 4] rfl)
            · rw [if_neg c_9] at hR
              refine lv_iload hx hb dX2_bestDish_44 (lv_at hl 1 rfl) ?_
              refine lv_istore_n (lv' := [(3, .int x4_5), (4, .int x4_5), (0, .ref (aO 0)), (1, .int p1), (2, .int p2)]) hx hb dX2_bestDish_46 rfl hl (by decide) rfl (fun ls hl => ?_)
              refine lv_iinc (v := (x4_5 + 1)) (lv' := [(4, .int (x4_5 + 1)), (3, .int x4_5), (0, .ref (aO 0)), (1, .int p1), (2, .int p2)]) hx hb dX2_bestDish_47 hl (k := 1) rfl rfl (by decide) rfl (fun ls hl => ?_)
              refine lv_goto (tgt := 5) hx hb dX2_bestDish_50 (by decide) ?_
              exact ih x4_5 (x4_5 + 1) u3 u4 _ _  hR hP hD hS ls (lv_sub hl [1, 0, 2, 3, 4] rfl)
  refine LOOP5 (fun x3_5 Y_5 S_5 => (some (x3_5, Y_5, S_5))) (fun x3_5 Y_5 S_5 H1 locs hR hP hD hS ls hl => ?_) 13 (-1 : Int32) (0 : Int32) Y S _ _  hR hP hD hS ls (lv_sub hl [1, 0, 2, 3, 4] rfl)
  try dsimp only at hR
  refine lv_iload_n hx hb dX2_bestDish_53 rfl (lv_at hl 0 rfl) ?_
  exact W.iret (v := x3_5) hx hb hr (fun t ht hW => ⟨⟨x3_5, (Y_5, S_5), rfl, Option.some.inj hR, P_at ht hP⟩, hS.F ht⟩) hS.2.2 dX2_bestDish_54
abbrev rm_X2_growth : Room := { frames := 3, cells := 0, slots := 0, locals := 71 }
abbrev q_X2_growth (dC : Nat → ClassId) (dI : Nat → Nat → Nat) (cI cZ cS : ClassId) (aO : Nat → Nat) (aL : Nat → Nat) (aS : Nat → Nat)  (res : Int32) (A : Nat → Prop) : Array Value → State → Outcome → State → Prop := va_Qi (fun (r : Int32) (u : Unit) => r = res) (fun _ _ => True) A
set_option maxHeartbeats 4000000 in
set_option maxRecDepth 100000 in
theorem met_X2_growth (l : Launch) (dC : Nat → ClassId) (dI : Nat → Nat → Nat) (cI cZ cS : ClassId) (aO : Nat → Nat) (aL : Nat → Nat) (aS : Nat → Nat) (Y : Pic) (S : Pic) (sz : Nat) (p1 : Int32) (p2 : Int32) : Met l yX2_growth wsX2_growth rm_X2_growth (va_Pc [.ref (aO 0), .int p1, .int p2] (pW (dC, dI) (tyS cI cZ cS) (wOu aO aS aL ++ (wLo cI aL Y ++ (wSt cI aS S))) sz)) (q_X2_growth dC dI cI cZ cS aO aL aS (f2_growth S p1 p2) (a0 sz)) 0 0 (a0 sz) := by
  refine Met.ofW (cc := cX2_growth) (maxL := 10) (ret := (some .int)) (by decide) rfl ?_
  intro p e s m args below meth c s₁ B hml hv
  obtain ⟨rfl, hsz, hP, hK, hD0, hN⟩ := hv
  have hx := B.exec
  have hb := B.bytes
  have hr := B.returns
  have hts := atoms_spec (ws := wsX2_growth) B.pre
  have hown : s.vm.findClass RX2 = some m.cls := findClass_of_methodNamed B.named
  have hlocks := B.notSynchronized
  subst hsz
  have hD := hD0
  have hA : ∀ q : Nat, s.heap.size ≤ q → a0 s.heap.size q := fun q h => Or.inr h
  have hS : va_S (a0 s.heap.size) s.heap s.heap [] := va_S.rf
  have hP : va_P (dC, dI) vwCl (wOu aO aS aL ++ (wLo cI aL Y ++ (wSt cI aS S))) s.heap := hP
  generalize hR : f2_growth S p1 p2 = res
  rw [f2_growth] at hR
  have hin2 : ∀ w ∈ wsX20, w ∈ wsX2_growth := by decide +kernel
  have hin5 : ∀ w ∈ wsX50, w ∈ wsX2_growth := by decide +kernel
  have hl := lv_entry ([.ref (aO 0), .int p1, .int p2]) (n := 10) (Nat.le_of_ble_eq_true rfl)
  rw [lg_entry_eq]
  generalize (lg_sl ([.ref (aO 0), .int p1, .int p2]) ++ List.replicate (10 - (lg_sl ([.ref (aO 0), .int p1, .int p2])).length) Slot.unset).toArray = ls at hl ⊢
  have hl : lv_has ls 10 [(0, .ref (aO 0)), (1, .int p1), (2, .int p2)] := hl
  refine lv_aload_n hx hb dX2_growth_0 rfl (lv_at hl 0 rfl) ?_
  refine lv_iload_n hx hb dX2_growth_1 rfl (lv_at hl 1 rfl) ?_
  refine lv_iload_n hx hb dX2_growth_2 rfl (lv_at hl 2 rfl) ?_
  refine va_calli (va_runV (As := [.int p1, .int p2]) (rest := []) ⟨hx, hb, hml, hown, hts⟩ (met_X2_joyOfDish l dC dI cI cZ cS aO aL aS Y S s.heap.size p1 p2) (cwV 2 hts gX2_growth_X2_joyOfDish rfl rfl rfl (by decide +kernel) ⟨Nat.le_of_ble_eq_true rfl, Nat.le_of_ble_eq_true rfl⟩) (pV (wc := wOu aO aS aL ++ (wLo cI aL Y ++ (wSt cI aS S))) (ci := 2) (q0 := 0) hK hP hD hN [0, 1, 2, 3, 4, 5, 6, 7, 8, 9, 10, 11, 12, 13, 14] rfl (by decide) rfl rfl) rfl rfl hl.1 rfl (lv_room (Nat.le_of_ble_eq_true rfl)) dX2_growth_3 ⟨Nat.zero_le _, Nat.zero_le _⟩) hS (fun q _ h => a0_in hS hA q h) (a0_in hS hA) (fun r1 u t H1 locs ht hvm hw hB hz1 hk1 hS => ?_)
  have hR := bd_n hw hR
  have hP := rdk hP hk1
  refine lv_istore_n (lv' := [(3, .int r1), (0, .ref (aO 0)), (1, .int p1), (2, .int p2)]) hx hb dX2_growth_6 rfl hl (by decide) rfl (fun ls hl => ?_)
  refine lv_aload_n hx hb dX2_growth_7 rfl (lv_at hl 1 rfl) ?_
  refine va_get (D := (dC, dI)) (ci := 2) (v := .ref (aS 0)) (C := RX2) (T := TX2) (N := 2) hx hb hts hin2 hown hK hP 0 rfl rfl 0 (by decide) (hw_ hts 1 rfl) (fun _ h9 => h9) rfl dX2_growth_8 ?_
  refine va_get (D := (dC, dI)) (ci := 5) (v := .ref (aS 3)) (C := RX5) (T := TX5) (N := 12) hx hb hts hin5 hown hK hP 4 rfl rfl 3 (by decide) (hw_ hts 2 rfl) (fun _ h9 => h9) rfl dX2_growth_11 ?_
  refine lv_iload_n hx hb dX2_growth_14 rfl (lv_at hl 3 rfl) ?_
  refine va_calli (va_runSN (As := [.ref (aS 3), .int p2]) (rest := []) ⟨hx, hb, hml, hown, hts⟩ (met_X6_at l dC dI cI cZ cS (aS 3) 12 (by decide) (S 3) H1.size p2) ⟨va_cnB 2 hts ggX2_growth_X6_at rfl rfl rfl (hN_9 hN) (hw_ hts 22 rfl) (by decide +kernel) ⟨Nat.le_of_ble_eq_true rfl, Nat.le_of_ble_eq_true rfl⟩, (hw_ hts 21 rfl), trivial⟩ (pS (wc := [((aS 3), .inl (cI, 12, .inl (S 3)))]) hK hP hD hN [7] rfl (by decide)) rfl rfl hl.1 rfl (lv_room (Nat.le_of_ble_eq_true rfl)) dX2_growth_15 ⟨Nat.zero_le _, Nat.zero_le _⟩) hS (fun q _ h => a0_in hS hA q h) (a0_in hS hA) (fun r2 u t H2 locs ht hvm hw hB hz1 hk1 hS => ?_)
  subst hw
  have hP := rdk hP hk1
  refine lv_topi (fun v3 hv3 => ?_)
  have hR := bd_n hv3 hR
  refine lv_istore (lv' := [(4, .int v3), (3, .int r1), (0, .ref (aO 0)), (1, .int p1), (2, .int p2)]) hx hb dX2_growth_18 hl (by decide) rfl (fun ls hl => ?_)
  refine lv_iload_n hx hb dX2_growth_20 rfl (lv_at hl 3 rfl) ?_
  refine lv_iconst (v := (1 : Int32)) hx hb dX2_growth_21 (by decide) ?_
  refine lv_iadd hx hb dX2_growth_22 ?_
  refine lv_iconst (v := (0 : Int32)) hx hb dX2_growth_23 (by decide) ?_
  refine va_calli (va_runSN (As := [.int (p1 + (1 : Int32)), .int (0 : Int32)]) (rest := []) ⟨hx, hb, hml, hown, hts⟩ (met_X6_cellOf l dC dI cI cZ cS H2.size (p1 + (1 : Int32)) (0 : Int32)) ⟨va_cnB 2 hts ggX2_growth_X6_cellOf rfl rfl rfl (hN_8 hN) (hw_ hts 22 rfl) (by decide +kernel) ⟨Nat.le_of_ble_eq_true rfl, Nat.le_of_ble_eq_true rfl⟩, (hw_ hts 24 rfl), trivial⟩ (pS (wc := []) hK hP hD hN [] rfl (by decide)) rfl rfl hl.1 rfl (lv_room (Nat.le_of_ble_eq_true rfl)) dX2_growth_24 ⟨Nat.zero_le _, Nat.zero_le _⟩) hS (fun q _ h => a0_in hS hA q h) (a0_in hS hA) (fun r4 u t H3 locs ht hvm hw hB hz1 hk1 hS => ?_)
  subst hw
  have hP := rdk hP hk1
  refine lv_topi (fun v5 hv5 => ?_)
  have hR := bd_n hv5 hR
  refine lv_istore (lv' := [(5, .int v5), (4, .int v3), (3, .int r1), (0, .ref (aO 0)), (1, .int p1), (2, .int p2)]) hx hb dX2_growth_27 hl (by decide) rfl (fun ls hl => ?_)
  refine lv_bipush (v := (28 : Int32)) hx hb dX2_growth_29 (by decide) ?_
  refine lv_iload_n hx hb dX2_growth_31 rfl (lv_at hl 4 rfl) ?_
  refine lv_aload_n hx hb dX2_growth_32 rfl (lv_at hl 3 rfl) ?_
  refine va_get (D := (dC, dI)) (ci := 2) (v := .ref (aS 0)) (C := RX2) (T := TX2) (N := 2) hx hb hts hin2 hown hK hP 0 rfl rfl 0 (by decide) (hw_ hts 1 rfl) (fun _ h9 => h9) rfl dX2_growth_33 ?_
  refine va_get (D := (dC, dI)) (ci := 5) (v := .ref (aS 10)) (C := RX5) (T := TX5) (N := 12) hx hb hts hin5 hown hK hP 4 rfl rfl 10 (by decide) (hw_ hts 3 rfl) (fun _ h9 => h9) rfl dX2_growth_36 ?_
  refine lv_iconst (v := (1 : Int32)) hx hb dX2_growth_39 (by decide) ?_
  refine va_calli (va_runSN (As := [.ref (aS 10), .int (1 : Int32)]) (rest := [.int p1, .int (28 : Int32)]) ⟨hx, hb, hml, hown, hts⟩ (met_X6_at l dC dI cI cZ cS (aS 10) 3 (by decide) (S 10) H3.size (1 : Int32)) ⟨va_cnB 2 hts ggX2_growth_X6_at rfl rfl rfl (hN_9 hN) (hw_ hts 22 rfl) (by decide +kernel) ⟨Nat.le_of_ble_eq_true rfl, Nat.le_of_ble_eq_true rfl⟩, (hw_ hts 21 rfl), trivial⟩ (pS (wc := [((aS 10), .inl (cI, 3, .inl (S 10)))]) hK hP hD hN [13] rfl (by decide)) rfl rfl hl.1 rfl (lv_room (Nat.le_of_ble_eq_true rfl)) dX2_growth_40 ⟨Nat.zero_le _, Nat.zero_le _⟩) hS (fun q _ h => a0_in hS hA q h) (a0_in hS hA) (fun r6 u t H4 locs ht hvm hw hB hz1 hk1 hS => ?_)
  subst hw
  have hP := rdk hP hk1
  refine lv_iadd hx hb dX2_growth_43 ?_
  refine lv_iconst (v := (1 : Int32)) hx hb dX2_growth_44 (by decide) ?_
  refine lv_iadd hx hb dX2_growth_45 ?_
  refine va_mmin hx hb (hml.trans hl.1.symm) hown (hw_ hts 4 rfl) (hw_ hts 5 rfl) (hw_ hts 6 rfl) (hw_ hts 7 rfl) (Nat.le_of_ble_eq_true rfl) (Nat.le_of_ble_eq_true rfl) (Nat.zero_le _) (Nat.zero_le _) dX2_growth_46 ?_
  refine lv_iconst (v := (0 : Int32)) hx hb dX2_growth_49 (by decide) ?_
  refine va_calli (va_runSN (As := [.int (if ((p1 + (f6_at 3 (S 10) (1 : Int32))) + (1 : Int32)) < (28 : Int32) then ((p1 + (f6_at 3 (S 10) (1 : Int32))) + (1 : Int32)) else (28 : Int32)), .int (0 : Int32)]) (rest := []) ⟨hx, hb, hml, hown, hts⟩ (met_X6_cellOf l dC dI cI cZ cS H4.size (if ((p1 + (f6_at 3 (S 10) (1 : Int32))) + (1 : Int32)) < (28 : Int32) then ((p1 + (f6_at 3 (S 10) (1 : Int32))) + (1 : Int32)) else (28 : Int32)) (0 : Int32)) ⟨va_cnB 2 hts ggX2_growth_X6_cellOf rfl rfl rfl (hN_8 hN) (hw_ hts 22 rfl) (by decide +kernel) ⟨Nat.le_of_ble_eq_true rfl, Nat.le_of_ble_eq_true rfl⟩, (hw_ hts 24 rfl), trivial⟩ (pS (wc := []) hK hP hD hN [] rfl (by decide)) rfl rfl hl.1 rfl (lv_room (Nat.le_of_ble_eq_true rfl)) dX2_growth_50 ⟨Nat.zero_le _, Nat.zero_le _⟩) hS (fun q _ h => a0_in hS hA q h) (a0_in hS hA) (fun r7 u t H5 locs ht hvm hw hB hz1 hk1 hS => ?_)
  subst hw
  have hP := rdk hP hk1
  refine lv_topi (fun v8 hv8 => ?_)
  have hR := bd_n hv8 hR
  refine lv_istore (lv' := [(6, .int v8), (5, .int v5), (4, .int v3), (3, .int r1), (0, .ref (aO 0)), (1, .int p1), (2, .int p2)]) hx hb dX2_growth_53 hl (by decide) rfl (fun ls hl => ?_)
  refine lv_iload hx hb dX2_growth_55 (lv_at hl 1 rfl) ?_
  refine lv_istore (lv' := [(7, .int v5), (6, .int v8), (5, .int v5), (4, .int v3), (3, .int r1), (0, .ref (aO 0)), (1, .int p1), (2, .int p2)]) hx hb dX2_growth_57 hl (by decide) rfl (fun ls hl => ?_)
  have LOOP59 : ∀ (k : Int32 → Int32), (∀ (x3_59 : Int32) (H6 : Heap) (locs : List Loc), k x3_59 = res → va_P (dC, dI) vwCl (wOu aO aS aL ++ (wLo cI aL Y ++ (wSt cI aS S))) H6 → va_D (fun _ => True) (wOu aO aS aL ++ (wLo cI aL Y ++ (wSt cI aS S))) → va_S (a0 s.heap.size) s.heap H6 locs → ∀ (ls : Array Slot), lv_has ls 10 [(3, .int x3_59)] → W p l e (headSpec wsX2_growth rm_X2_growth).room s m ([.ref (aO 0), .int p1, .int p2] : List Value).toArray below meth c H6 locs 0 0 (MQ below (q_X2_growth dC dI cI cZ cS aO aL aS res (a0 s.heap.size)) ([.ref (aO 0), .int p1, .int p2] : List Value).toArray s 0 0 (a0 s.heap.size)) (F0 m 143 ls [])) → ∀ (nf : Nat) (x3_59 : Int32) (x7_59 : Int32) (H6 : Heap) (locs : List Loc), (v8).toInt - (x7_59).toInt ≤ (nf : Int) → f2_growth_L59 S v3 v8 nf x3_59 x7_59 k = res → va_P (dC, dI) vwCl (wOu aO aS aL ++ (wLo cI aL Y ++ (wSt cI aS S))) H6 → va_D (fun _ => True) (wOu aO aS aL ++ (wLo cI aL Y ++ (wSt cI aS S))) → va_S (a0 s.heap.size) s.heap H6 locs → ∀ (ls : Array Slot), lv_has ls 10 [(3, .int x3_59), (7, .int x7_59), (6, .int v8), (4, .int v3), (0, .ref (aO 0))] → W p l e (headSpec wsX2_growth rm_X2_growth).room s m ([.ref (aO 0), .int p1, .int p2] : List Value).toArray below meth c H6 locs 0 0 (MQ below (q_X2_growth dC dI cI cZ cS aO aL aS res (a0 s.heap.size)) ([.ref (aO 0), .int p1, .int p2] : List Value).toArray s 0 0 (a0 s.heap.size)) (F0 m 59 ls []) := by
    intro k hk nf
    induction nf with
    | zero =>
      intro x3_59 x7_59 H6 locs hfu hR hP hD hS ls hl
      rw [f2_growth_L59] at hR
      refine lv_iload hx hb dX2_growth_59 (lv_at hl 1 rfl) ?_
      refine lv_iload hx hb dX2_growth_61 (lv_at hl 2 rfl) ?_
      refine lv_icmp_ge (tgt := 143) hx hb dX2_growth_63 (by decide) (fun c_9 => ?_) (fun c_9 => ?_)
      · skip
        exact hk x3_59 _ _  hR hP hD hS ls (lv_sub hl [0] rfl)
      · exact (fuel0 hfu c_9).elim
    | succ nf ih =>
      intro x3_59 x7_59 H6 locs hfu hR hP hD hS ls hl
      rw [f2_growth_L59] at hR
      refine lv_iload hx hb dX2_growth_59 (lv_at hl 1 rfl) ?_
      refine lv_iload hx hb dX2_growth_61 (lv_at hl 2 rfl) ?_
      refine lv_icmp_ge (tgt := 143) hx hb dX2_growth_63 (by decide) (fun c_10 => ?_) (fun c_10 => ?_)
      · rw [if_pos c_10] at hR
        exact hk x3_59 _ _  hR hP hD hS ls (lv_sub hl [0] rfl)
      · rw [if_neg c_10] at hR
        have hfu := fuelS hfu c_10
        refine lv_aload_n hx hb dX2_growth_66 rfl (lv_at hl 4 rfl) ?_
        refine va_get (D := (dC, dI)) (ci := 2) (v := .ref (aS 0)) (C := RX2) (T := TX2) (N := 2) hx hb hts hin2 hown hK hP 0 rfl rfl 0 (by decide) (hw_ hts 1 rfl) (fun _ h9 => h9) rfl dX2_growth_67 ?_
        refine va_get (D := (dC, dI)) (ci := 5) (v := .ref (aS 11)) (C := RX5) (T := TX5) (N := 12) hx hb hts hin5 hown hK hP 4 rfl rfl 11 (by decide) (hw_ hts 8 rfl) (fun _ h9 => h9) rfl dX2_growth_70 ?_
        refine lv_iload hx hb dX2_growth_73 (lv_at hl 1 rfl) ?_
        refine va_calli (va_runSN (As := [.ref (aS 11), .int x7_59]) (rest := []) ⟨hx, hb, hml, hown, hts⟩ (met_X6_at l dC dI cI cZ cS (aS 11) 84 (by decide) (S 11) H6.size x7_59) ⟨va_cnB 2 hts ggX2_growth_X6_at rfl rfl rfl (hN_9 hN) (hw_ hts 22 rfl) (by decide +kernel) ⟨Nat.le_of_ble_eq_true rfl, Nat.le_of_ble_eq_true rfl⟩, (hw_ hts 21 rfl), trivial⟩ (pS (wc := [((aS 11), .inl (cI, 84, .inl (S 11)))]) hK hP hD hN [14] rfl (by decide)) rfl rfl hl.1 rfl (lv_room (Nat.le_of_ble_eq_true rfl)) dX2_growth_75 ⟨Nat.zero_le _, Nat.zero_le _⟩) hS (fun q _ h => a0_in hS hA q h) (a0_in hS hA) (fun r11 u t H7 locs ht hvm hw hB hz1 hk1 hS => ?_)
        subst hw
        have hP := rdk hP hk1
        refine lv_topi (fun v12 hv12 => ?_)
        have hR := bd_n hv12 hR
        refine lv_istore (lv' := [(8, .int v12), (3, .int x3_59), (7, .int x7_59), (6, .int v8), (4, .int v3), (0, .ref (aO 0))]) hx hb dX2_growth_78 hl (by decide) rfl (fun ls hl => ?_)
        refine lv_iload hx hb dX2_growth_80 (lv_at hl 0 rfl) ?_
        refine lv_iconst (v := (-1 : Int32)) hx hb dX2_growth_82 (by decide) ?_
        refine lv_icmp_eq (tgt := 137) hx hb dX2_growth_83 (by decide) (fun c_13 => ?_) (fun c_13 => ?_)
        · rw [if_pos c_13] at hR
          refine lv_iinc (v := (x7_59 + 1)) (lv' := [(7, .int (x7_59 + 1)), (8, .int v12), (3, .int x3_59), (6, .int v8), (4, .int v3), (0, .ref (aO 0))]) hx hb dX2_growth_137 hl (k := 2) rfl rfl (by decide) rfl (fun ls hl => ?_)
          refine lv_goto (tgt := 59) hx hb dX2_growth_140 (by decide) ?_
          exact ih x3_59 (x7_59 + 1) _ _ hfu hR hP hD hS ls (lv_sub hl [2, 0, 3, 4, 5] rfl)
        · rw [if_neg c_13] at hR
          refine lv_aload_n hx hb dX2_growth_86 rfl (lv_at hl 5 rfl) ?_
          refine va_get (D := (dC, dI)) (ci := 2) (v := .ref (aS 0)) (C := RX2) (T := TX2) (N := 2) hx hb hts hin2 hown hK hP 0 rfl rfl 0 (by decide) (hw_ hts 1 rfl) (fun _ h9 => h9) rfl dX2_growth_87 ?_
          refine va_get (D := (dC, dI)) (ci := 5) (v := .ref (aS 3)) (C := RX5) (T := TX5) (N := 12) hx hb hts hin5 hown hK hP 4 rfl rfl 3 (by decide) (hw_ hts 2 rfl) (fun _ h9 => h9) rfl dX2_growth_90 ?_
          refine lv_iload hx hb dX2_growth_93 (lv_at hl 0 rfl) ?_
          refine va_calli (va_runSN (As := [.ref (aS 3), .int v12]) (rest := []) ⟨hx, hb, hml, hown, hts⟩ (met_X6_at l dC dI cI cZ cS (aS 3) 12 (by decide) (S 3) H7.size v12) ⟨va_cnB 2 hts ggX2_growth_X6_at rfl rfl rfl (hN_9 hN) (hw_ hts 22 rfl) (by decide +kernel) ⟨Nat.le_of_ble_eq_true rfl, Nat.le_of_ble_eq_true rfl⟩, (hw_ hts 21 rfl), trivial⟩ (pS (wc := [((aS 3), .inl (cI, 12, .inl (S 3)))]) hK hP hD hN [7] rfl (by decide)) rfl rfl hl.1 rfl (lv_room (Nat.le_of_ble_eq_true rfl)) dX2_growth_95 ⟨Nat.zero_le _, Nat.zero_le _⟩) hS (fun q _ h => a0_in hS hA q h) (a0_in hS hA) (fun r14 u t H8 locs ht hvm hw hB hz1 hk1 hS => ?_)
          subst hw
          have hP := rdk hP hk1
          refine lv_iload hx hb dX2_growth_98 (lv_at hl 4 rfl) ?_
          refine lv_icmp_ne (tgt := 137) hx hb dX2_growth_100 (by decide) (fun c_15 => ?_) (fun c_15 => ?_)
          · rw [if_neg c_15] at hR
            refine lv_iinc (v := (x7_59 + 1)) (lv' := [(7, .int (x7_59 + 1)), (8, .int v12), (3, .int x3_59), (6, .int v8), (4, .int v3), (0, .ref (aO 0))]) hx hb dX2_growth_137 hl (k := 2) rfl rfl (by decide) rfl (fun ls hl => ?_)
            refine lv_goto (tgt := 59) hx hb dX2_growth_140 (by decide) ?_
            exact ih x3_59 (x7_59 + 1) _ _ hfu hR hP hD hS ls (lv_sub hl [2, 0, 3, 4, 5] rfl)
          · rw [if_pos c_15] at hR
            refine lv_aload_n hx hb dX2_growth_103 rfl (lv_at hl 5 rfl) ?_
            refine lv_iload hx hb dX2_growth_104 (lv_at hl 2 rfl) ?_
            refine lv_iconst (v := (3 : Int32)) hx hb dX2_growth_106 (by decide) ?_
            refine lv_idiv hx hb dX2_growth_107 (by decide) ?_
            refine lv_iload hx hb dX2_growth_108 (lv_at hl 0 rfl) ?_
            refine va_calli (va_runV (As := [.int (x7_59 / (3 : Int32)), .int v12]) (rest := []) ⟨hx, hb, hml, hown, hts⟩ (met_X2_sameTasteBefore l dC dI cI cZ cS aO aL aS Y S H8.size (x7_59 / (3 : Int32)) v12) (cwV 2 hts gX2_growth_X2_sameTasteBefore rfl rfl rfl (by decide +kernel) ⟨Nat.le_of_ble_eq_true rfl, Nat.le_of_ble_eq_true rfl⟩) (pV (wc := wOu aO aS aL ++ (wLo cI aL Y ++ (wSt cI aS S))) (ci := 2) (q0 := 0) hK hP hD hN [0, 1, 2, 3, 4, 5, 6, 7, 8, 9, 10, 11, 12, 13, 14] rfl (by decide) rfl rfl) rfl rfl hl.1 rfl (lv_room (Nat.le_of_ble_eq_true rfl)) dX2_growth_110 ⟨Nat.zero_le _, Nat.zero_le _⟩) hS (fun q _ h => a0_in hS hA q h) (a0_in hS hA) (fun r16 u t H9 locs ht hvm hw hB hz1 hk1 hS => ?_)
            have hR := bd_n hw hR
            have hP := rdk hP hk1
            refine lv_istore (lv' := [(9, .int r16), (8, .int v12), (3, .int x3_59), (7, .int x7_59), (6, .int v8), (4, .int v3), (0, .ref (aO 0))]) hx hb dX2_growth_113 hl (by decide) rfl (fun ls hl => ?_)
            refine lv_iload_n hx hb dX2_growth_115 rfl (lv_at hl 2 rfl) ?_
            refine lv_aload_n hx hb dX2_growth_116 rfl (lv_at hl 6 rfl) ?_
            refine lv_iload hx hb dX2_growth_117 (lv_at hl 1 rfl) ?_
            refine lv_iload hx hb dX2_growth_119 (lv_at hl 0 rfl) ?_
            refine lv_iconst (v := (1 : Int32)) hx hb dX2_growth_121 (by decide) ?_
            refine lv_iadd hx hb dX2_growth_122 ?_
            refine va_calli (va_runV (As := [.int v12, .int (r16 + (1 : Int32))]) (rest := [.int x3_59]) ⟨hx, hb, hml, hown, hts⟩ (met_X2_joyLeft l dC dI cI cZ cS aO aL aS Y S H9.size v12 (r16 + (1 : Int32))) (cwV 2 hts gX2_growth_X2_joyLeft rfl rfl rfl (by decide +kernel) ⟨Nat.le_of_ble_eq_true rfl, Nat.le_of_ble_eq_true rfl⟩) (pV (wc := wOu aO aS aL ++ (wLo cI aL Y ++ (wSt cI aS S))) (ci := 2) (q0 := 0) hK hP hD hN [0, 1, 2, 3, 4, 5, 6, 7, 8, 9, 10, 11, 12, 13, 14] rfl (by decide) rfl rfl) rfl rfl hl.1 rfl (lv_room (Nat.le_of_ble_eq_true rfl)) dX2_growth_123 ⟨Nat.zero_le _, Nat.zero_le _⟩) hS (fun q _ h => a0_in hS hA q h) (a0_in hS hA) (fun r17 u t H10 locs ht hvm hw hB hz1 hk1 hS => ?_)
            have hR := bd_n hw hR
            have hP := rdk hP hk1
            refine lv_aload_n hx hb dX2_growth_126 rfl (lv_at hl 6 rfl) ?_
            refine lv_iload hx hb dX2_growth_127 (lv_at hl 1 rfl) ?_
            refine lv_iload hx hb dX2_growth_129 (lv_at hl 0 rfl) ?_
            refine va_calli (va_runV (As := [.int v12, .int r16]) (rest := [.int r17, .int x3_59]) ⟨hx, hb, hml, hown, hts⟩ (met_X2_joyLeft l dC dI cI cZ cS aO aL aS Y S H10.size v12 r16) (cwV 2 hts gX2_growth_X2_joyLeft rfl rfl rfl (by decide +kernel) ⟨Nat.le_of_ble_eq_true rfl, Nat.le_of_ble_eq_true rfl⟩) (pV (wc := wOu aO aS aL ++ (wLo cI aL Y ++ (wSt cI aS S))) (ci := 2) (q0 := 0) hK hP hD hN [0, 1, 2, 3, 4, 5, 6, 7, 8, 9, 10, 11, 12, 13, 14] rfl (by decide) rfl rfl) rfl rfl hl.1 rfl (lv_room (Nat.le_of_ble_eq_true rfl)) dX2_growth_131 ⟨Nat.zero_le _, Nat.zero_le _⟩) hS (fun q _ h => a0_in hS hA q h) (a0_in hS hA) (fun r18 u t H11 locs ht hvm hw hB hz1 hk1 hS => ?_)
            have hR := bd_n hw hR
            have hP := rdk hP hk1
            refine lv_isub hx hb dX2_growth_134 ?_
            refine lv_iadd hx hb dX2_growth_135 ?_
            refine lv_topi (fun v19 hv19 => ?_)
            have hR := bd_n hv19 hR
            refine lv_istore_n (lv' := [(3, .int v19), (9, .int r16), (8, .int v12), (7, .int x7_59), (6, .int v8), (4, .int v3), (0, .ref (aO 0))]) hx hb dX2_growth_136 rfl hl (by decide) rfl (fun ls hl => ?_)
            refine lv_iinc (v := (x7_59 + 1)) (lv' := [(7, .int (x7_59 + 1)), (3, .int v19), (9, .int r16), (8, .int v12), (6, .int v8), (4, .int v3), (0, .ref (aO 0))]) hx hb dX2_growth_137 hl (k := 3) rfl rfl (by decide) rfl (fun ls hl => ?_)
            refine lv_goto (tgt := 59) hx hb dX2_growth_140 (by decide) ?_
            exact ih v19 (x7_59 + 1) _ _ hfu hR hP hD hS ls (lv_sub hl [1, 0, 4, 5, 6] rfl)
  refine LOOP59 (fun x3_59 => x3_59) (fun x3_59 H6 locs hR hP hD hS ls hl => ?_) (fuelN v5 v8) r1 v5 _ _ (fuelE _ _) hR hP hD hS ls (lv_sub hl [4, 0, 1, 3, 5] rfl)
  try dsimp only at hR
  refine lv_iload_n hx hb dX2_growth_143 rfl (lv_at hl 0 rfl) ?_
  exact W.iret (v := x3_59) hx hb hr (fun t ht hW => ⟨⟨x3_59, (), rfl, hR, trivial⟩, hS.F ht⟩) hS.2.2 dX2_growth_144
abbrev rm_X2_bestDayOf : Room := { frames := 5, cells := 0, slots := 0, locals := 126 }
abbrev q_X2_bestDayOf (dC : Nat → ClassId) (dI : Nat → Nat → Nat) (cI cZ cS : ClassId) (aO : Nat → Nat) (aL : Nat → Nat) (aS : Nat → Nat)  (res : Int32 × Pic × Pic) (A : Nat → Prop) : Array Value → State → Outcome → State → Prop := va_Qi (fun (r : Int32) (u : Pic × Pic) => (r, u) = res) (fun u t => va_P (dC, dI) vwCl (wOu aO aS aL ++ (wLo cI aL u.1 ++ (wSt cI aS u.2))) t.heap) A
set_option maxHeartbeats 4000000 in
set_option maxRecDepth 100000 in
theorem met_X2_bestDayOf (l : Launch) (dC : Nat → ClassId) (dI : Nat → Nat → Nat) (cI cZ cS : ClassId) (aO : Nat → Nat) (aL : Nat → Nat) (aS : Nat → Nat) (Y : Pic) (S : Pic) (sz : Nat) (p1 : Int32) : Met l yX2_bestDayOf wsX2_bestDayOf rm_X2_bestDayOf (va_Pc [.ref (aO 0), .int p1] (pW (dC, dI) (tyS cI cZ cS) (wOu aO aS aL ++ (wLo cI aL Y ++ (wSt cI aS S))) sz)) (q_X2_bestDayOf dC dI cI cZ cS aO aL aS (f2_bestDayOf Y S p1) (va_A (wOu aO aS aL ++ (wLo cI aL Y ++ (wSt cI aS S))) sz)) 0 0 (va_A (wOu aO aS aL ++ (wLo cI aL Y ++ (wSt cI aS S))) sz) := by
  refine Met.ofW (cc := cX2_bestDayOf) (maxL := 7) (ret := (some .int)) (by decide) rfl ?_
  intro p e s m args below meth c s₁ B hml hv
  obtain ⟨rfl, hsz, hP, hK, hD0, hN⟩ := hv
  have hx := B.exec
  have hb := B.bytes
  have hr := B.returns
  have hts := atoms_spec (ws := wsX2_bestDayOf) B.pre
  have hown : s.vm.findClass RX2 = some m.cls := findClass_of_methodNamed B.named
  have hlocks := B.notSynchronized
  subst hsz
  have hD := hD0.self (sz := s.heap.size)
  generalize hAe : va_A (wOu aO aS aL ++ (wLo cI aL Y ++ (wSt cI aS S))) s.heap.size = A at hD ⊢
  have hA : ∀ q : Nat, s.heap.size ≤ q → A q := fun q h => by rw [← hAe]; exact Or.inr h
  have hS : va_S A s.heap s.heap [] := va_S.rf
  have hP : va_P (dC, dI) vwCl (wOu aO aS aL ++ (wLo cI aL Y ++ (wSt cI aS S))) s.heap := hP
  generalize hR : f2_bestDayOf Y S p1 = res
  rw [f2_bestDayOf] at hR
  have hin2 : ∀ w ∈ wsX20, w ∈ wsX2_bestDayOf := by decide +kernel
  have hin5 : ∀ w ∈ wsX50, w ∈ wsX2_bestDayOf := by decide +kernel
  have hl := lv_entry ([.ref (aO 0), .int p1]) (n := 7) (Nat.le_of_ble_eq_true rfl)
  rw [lg_entry_eq]
  generalize (lg_sl ([.ref (aO 0), .int p1]) ++ List.replicate (7 - (lg_sl ([.ref (aO 0), .int p1])).length) Slot.unset).toArray = ls at hl ⊢
  have hl : lv_has ls 7 [(0, .ref (aO 0)), (1, .int p1)] := hl
  refine lv_aload_n hx hb dX2_bestDayOf_0 rfl (lv_at hl 0 rfl) ?_
  refine va_get (D := (dC, dI)) (ci := 2) (v := .ref (aS 0)) (C := RX2) (T := TX2) (N := 2) hx hb hts hin2 hown hK hP 0 rfl rfl 0 (by decide) (hw_ hts 1 rfl) (fun _ h9 => h9) rfl dX2_bestDayOf_1 ?_
  refine va_get (D := (dC, dI)) (ci := 5) (v := .ref (aS 1)) (C := RX5) (T := TX5) (N := 12) hx hb hts hin5 hown hK hP 4 rfl rfl 1 (by decide) (hw_ hts 2 rfl) (fun _ h9 => h9) rfl dX2_bestDayOf_4 ?_
  refine lv_iload_n hx hb dX2_bestDayOf_7 rfl (lv_at hl 1 rfl) ?_
  refine va_calli (va_runSN (As := [.ref (aS 1), .int p1]) (rest := []) ⟨hx, hb, hml, hown, hts⟩ (met_X6_at l dC dI cI cZ cS (aS 1) 12 (by decide) (S 1) s.heap.size p1) ⟨va_cnB 2 hts ggX2_bestDayOf_X6_at rfl rfl rfl (hN_9 hN) (hw_ hts 4 rfl) (by decide +kernel) ⟨Nat.le_of_ble_eq_true rfl, Nat.le_of_ble_eq_true rfl⟩, (hw_ hts 3 rfl), trivial⟩ (pS (wc := [((aS 1), .inl (cI, 12, .inl (S 1)))]) hK hP hD hN [5] rfl (by decide)) rfl rfl hl.1 rfl (lv_room (Nat.le_of_ble_eq_true rfl)) dX2_bestDayOf_8 ⟨Nat.zero_le _, Nat.zero_le _⟩) hS (fun q _ h => a0_in hS hA q h) (a0_in hS hA) (fun r1 u t H1 locs ht hvm hw hB hz1 hk1 hS => ?_)
  subst hw
  have hP := rdk hP hk1
  refine lv_topi (fun v2 hv2 => ?_)
  have hR := bd_n hv2 hR
  refine lv_istore_n (lv' := [(2, .int v2), (0, .ref (aO 0)), (1, .int p1)]) hx hb dX2_bestDayOf_11 rfl hl (by decide) rfl (fun ls hl => ?_)
  refine lv_iconst (v := (-1 : Int32)) hx hb dX2_bestDayOf_12 (by decide) ?_
  refine lv_istore_n (lv' := [(3, .int (-1 : Int32)), (2, .int v2), (0, .ref (aO 0)), (1, .int p1)]) hx hb dX2_bestDayOf_13 rfl hl (by decide) rfl (fun ls hl => ?_)
  refine lv_iconst (v := (0 : Int32)) hx hb dX2_bestDayOf_14 (by decide) ?_
  refine lv_istore (lv' := [(4, .int (0 : Int32)), (3, .int (-1 : Int32)), (2, .int v2), (0, .ref (aO 0)), (1, .int p1)]) hx hb dX2_bestDayOf_15 hl (by decide) rfl (fun ls hl => ?_)
  refine lv_iconst (v := (0 : Int32)) hx hb dX2_bestDayOf_17 (by decide) ?_
  refine lv_istore (lv' := [(5, .int (0 : Int32)), (4, .int (0 : Int32)), (3, .int (-1 : Int32)), (2, .int v2), (0, .ref (aO 0)), (1, .int p1)]) hx hb dX2_bestDayOf_18 hl (by decide) rfl (fun ls hl => ?_)
  have LOOP20 : ∀ (k : Int32 → Pic → Pic → (Int32 × Pic × Pic)), (∀ (x3_20 : Int32) (Y_20 : Pic) (S_20 : Pic) (H2 : Heap) (locs : List Loc), k x3_20 Y_20 S_20 = res → va_P (dC, dI) vwCl (wOu aO aS aL ++ (wLo cI aL Y_20 ++ (wSt cI aS S_20))) H2 → va_D A (wOu aO aS aL ++ (wLo cI aL Y_20 ++ (wSt cI aS S_20))) → va_S A s.heap H2 locs → ∀ (ls : Array Slot), lv_has ls 7 [(3, .int x3_20)] → W p l e (headSpec wsX2_bestDayOf rm_X2_bestDayOf).room s m ([.ref (aO 0), .int p1] : List Value).toArray below meth c H2 locs 0 0 (MQ below (q_X2_bestDayOf dC dI cI cZ cS aO aL aS res A) ([.ref (aO 0), .int p1] : List Value).toArray s 0 0 A) (F0 m 72 ls [])) → ∀ (nf : Nat) (x3_20 : Int32) (x4_20 : Int32) (x5_20 : Int32) (Y_20 : Pic) (S_20 : Pic) (H2 : Heap) (locs : List Loc), ((28 : Int32)).toInt - (x5_20).toInt ≤ (nf : Int) → f2_bestDayOf_L20 p1 v2 nf x3_20 x4_20 x5_20 Y_20 S_20 k = res → va_P (dC, dI) vwCl (wOu aO aS aL ++ (wLo cI aL Y_20 ++ (wSt cI aS S_20))) H2 → va_D A (wOu aO aS aL ++ (wLo cI aL Y_20 ++ (wSt cI aS S_20))) → va_S A s.heap H2 locs → ∀ (ls : Array Slot), lv_has ls 7 [(3, .int x3_20), (4, .int x4_20), (5, .int x5_20), (2, .int v2), (0, .ref (aO 0)), (1, .int p1)] → W p l e (headSpec wsX2_bestDayOf rm_X2_bestDayOf).room s m ([.ref (aO 0), .int p1] : List Value).toArray below meth c H2 locs 0 0 (MQ below (q_X2_bestDayOf dC dI cI cZ cS aO aL aS res A) ([.ref (aO 0), .int p1] : List Value).toArray s 0 0 A) (F0 m 20 ls []) := by
    intro k hk nf
    induction nf with
    | zero =>
      intro x3_20 x4_20 x5_20 Y_20 S_20 H2 locs hfu hR hP hD hS ls hl
      rw [f2_bestDayOf_L20] at hR
      refine lv_iload hx hb dX2_bestDayOf_20 (lv_at hl 2 rfl) ?_
      refine lv_bipush (v := (28 : Int32)) hx hb dX2_bestDayOf_22 (by decide) ?_
      refine lv_icmp_ge (tgt := 72) hx hb dX2_bestDayOf_24 (by decide) (fun c_3 => ?_) (fun c_3 => ?_)
      · skip
        exact hk x3_20 Y_20 S_20 _ _  hR hP hD hS ls (lv_sub hl [0] rfl)
      · exact (fuel0 hfu c_3).elim
    | succ nf ih =>
      intro x3_20 x4_20 x5_20 Y_20 S_20 H2 locs hfu hR hP hD hS ls hl
      rw [f2_bestDayOf_L20] at hR
      refine lv_iload hx hb dX2_bestDayOf_20 (lv_at hl 2 rfl) ?_
      refine lv_bipush (v := (28 : Int32)) hx hb dX2_bestDayOf_22 (by decide) ?_
      refine lv_icmp_ge (tgt := 72) hx hb dX2_bestDayOf_24 (by decide) (fun c_4 => ?_) (fun c_4 => ?_)
      · rw [if_pos c_4] at hR
        exact hk x3_20 Y_20 S_20 _ _  hR hP hD hS ls (lv_sub hl [0] rfl)
      · rw [if_neg c_4] at hR
        have hfu := fuelS hfu c_4
        refine lv_aload_n hx hb dX2_bestDayOf_27 rfl (lv_at hl 4 rfl) ?_
        refine lv_iload hx hb dX2_bestDayOf_28 (lv_at hl 2 rfl) ?_
        refine lv_iload_n hx hb dX2_bestDayOf_30 rfl (lv_at hl 3 rfl) ?_
        refine lv_iload_n hx hb dX2_bestDayOf_31 rfl (lv_at hl 5 rfl) ?_
        have hF := va_free (wc := wOu aO aS aL ++ (wLo cI aL Y_20 ++ (wSt cI aS S_20))) hD hS hA [0, 1, 2, 3, 4, 5, 6, 7, 8, 9, 10, 11, 12, 13, 14] rfl
        refine va_calli (va_runV (As := [.int x5_20, .int v2, .int p1]) (rest := []) ⟨hx, hb, hml, hown, hts⟩ (met_X2_reasonAgainst l dC dI cI cZ cS aO aL aS Y_20 S_20 H2.size x5_20 v2 p1) (cwV 3 hts gX2_bestDayOf_X2_reasonAgainst rfl rfl rfl (by decide +kernel) ⟨Nat.le_of_ble_eq_true rfl, Nat.le_of_ble_eq_true rfl⟩) (pV (wc := wOu aO aS aL ++ (wLo cI aL Y_20 ++ (wSt cI aS S_20))) (ci := 2) (q0 := 0) hK hP hD hN [0, 1, 2, 3, 4, 5, 6, 7, 8, 9, 10, 11, 12, 13, 14] rfl (by decide) rfl rfl) rfl rfl hl.1 rfl (lv_room (Nat.le_of_ble_eq_true rfl)) dX2_bestDayOf_32 ⟨Nat.zero_le _, Nat.zero_le _⟩) hS (fun q _ h => hF q h) hF (fun r5 u t H3 locs ht hvm hw hB hz1 hk1 hS => ?_)
        obtain ⟨u6, u7⟩ := u
        try dsimp only at hw hB
        rw [ht] at hB
        have hR := bd3_n hw hR
        have hP := wrk (w2 := wOu aO aS aL ++ (wLo cI aL u6 ++ (wSt cI aS u7))) hP hD [0, 1, 2, 3, 4, 5, 6, 7, 8, 9, 10, 11, 12, 13, 14] rfl (by decide) hk1 hB rfl rfl
        have hD := D_addr (w1 := wOu aO aS aL ++ (wLo cI aL u6 ++ (wSt cI aS u7))) hD rfl
        refine lv_if_ne (tgt := 66) hx hb dX2_bestDayOf_35 (by decide) (fun c_8 => ?_) (fun c_8 => ?_)
        · rw [if_neg c_8] at hR
          refine lv_iinc (v := (x5_20 + 1)) (lv' := [(5, .int (x5_20 + 1)), (3, .int x3_20), (4, .int x4_20), (2, .int v2), (0, .ref (aO 0)), (1, .int p1)]) hx hb dX2_bestDayOf_66 hl (k := 2) rfl rfl (by decide) rfl (fun ls hl => ?_)
          refine lv_goto (tgt := 20) hx hb dX2_bestDayOf_69 (by decide) ?_
          exact ih x3_20 x4_20 (x5_20 + 1) u6 u7 _ _ hfu hR hP hD hS ls (lv_sub hl [1, 2, 0, 3, 4, 5] rfl)
        · rw [if_pos c_8] at hR
          refine lv_aload_n hx hb dX2_bestDayOf_38 rfl (lv_at hl 4 rfl) ?_
          refine lv_iload hx hb dX2_bestDayOf_39 (lv_at hl 2 rfl) ?_
          refine lv_iload_n hx hb dX2_bestDayOf_41 rfl (lv_at hl 5 rfl) ?_
          refine va_calli (va_runV (As := [.int x5_20, .int p1]) (rest := []) ⟨hx, hb, hml, hown, hts⟩ (met_X2_growth l dC dI cI cZ cS aO aL aS u6 u7 H3.size x5_20 p1) (cwV 2 hts gX2_bestDayOf_X2_growth rfl rfl rfl (by decide +kernel) ⟨Nat.le_of_ble_eq_true rfl, Nat.le_of_ble_eq_true rfl⟩) (pV (wc := wOu aO aS aL ++ (wLo cI aL u6 ++ (wSt cI aS u7))) (ci := 2) (q0 := 0) hK hP hD hN [0, 1, 2, 3, 4, 5, 6, 7, 8, 9, 10, 11, 12, 13, 14] rfl (by decide) rfl rfl) rfl rfl hl.1 rfl (lv_room (Nat.le_of_ble_eq_true rfl)) dX2_bestDayOf_42 ⟨Nat.zero_le _, Nat.zero_le _⟩) hS (fun q _ h => a0_in hS hA q h) (a0_in hS hA) (fun r9 u t H4 locs ht hvm hw hB hz1 hk1 hS => ?_)
          have hR := bd_n hw hR
          have hP := rdk hP hk1
          refine lv_istore (lv' := [(6, .int r9), (3, .int x3_20), (4, .int x4_20), (5, .int x5_20), (2, .int v2), (0, .ref (aO 0)), (1, .int p1)]) hx hb dX2_bestDayOf_45 hl (by decide) rfl (fun ls hl => ?_)
          refine lv_iload_n hx hb dX2_bestDayOf_47 rfl (lv_at hl 1 rfl) ?_
          refine lv_iconst (v := (-1 : Int32)) hx hb dX2_bestDayOf_48 (by decide) ?_
          refine lv_icmp_eq (tgt := 59) hx hb dX2_bestDayOf_49 (by decide) (fun c_10 => ?_) (fun c_10 => ?_)
          · rw [if_pos c_10] at hR
            refine lv_iload hx hb dX2_bestDayOf_59 (lv_at hl 3 rfl) ?_
            refine lv_istore_n (lv' := [(3, .int x5_20), (6, .int r9), (4, .int x4_20), (5, .int x5_20), (2, .int v2), (0, .ref (aO 0)), (1, .int p1)]) hx hb dX2_bestDayOf_61 rfl hl (by decide) rfl (fun ls hl => ?_)
            refine lv_iload hx hb dX2_bestDayOf_62 (lv_at hl 1 rfl) ?_
            refine lv_istore (lv' := [(4, .int r9), (3, .int x5_20), (6, .int r9), (5, .int x5_20), (2, .int v2), (0, .ref (aO 0)), (1, .int p1)]) hx hb dX2_bestDayOf_64 hl (by decide) rfl (fun ls hl => ?_)
            refine lv_iinc (v := (x5_20 + 1)) (lv' := [(5, .int (x5_20 + 1)), (4, .int r9), (3, .int x5_20), (6, .int r9), (2, .int v2), (0, .ref (aO 0)), (1, .int p1)]) hx hb dX2_bestDayOf_66 hl (k := 3) rfl rfl (by decide) rfl (fun ls hl => ?_)
            refine lv_goto (tgt := 20) hx hb dX2_bestDayOf_69 (by decide) ?_
            exact ih x5_20 r9 (x5_20 + 1) u6 u7 _ _ hfu hR hP hD hS ls (lv_sub hl [2, 1, 0, 4, 5, 6] rfl)
          · rw [if_neg c_10] at hR
            refine lv_iload hx hb dX2_bestDayOf_52 (lv_at hl 0 rfl) ?_
            refine lv_iload hx hb dX2_bestDayOf_54 (lv_at hl 2 rfl) ?_
            refine lv_icmp_le (tgt := 66) hx hb dX2_bestDayOf_56 (by decide) (fun c_11 => ?_) (fun c_11 => ?_)
            · rw [if_pos c_11] at hR
              refine lv_iinc (v := (x5_20 + 1)) (lv' := [(5, .int (x5_20 + 1)), (6, .int r9), (3, .int x3_20), (4, .int x4_20), (2, .int v2), (0, .ref (aO 0)), (1, .int p1)]) hx hb dX2_bestDayOf_66 hl (k := 3) rfl rfl (by decide) rfl (fun ls hl => ?_)
              refine lv_goto (tgt := 20) hx hb dX2_bestDayOf_69 (by decide) ?_
              exact ih x3_20 x4_20 (x5_20 + 1) u6 u7 _ _ hfu hR hP hD hS ls (lv_sub hl [2, 3, 0, 4, 5, 6] rfl)
            · rw [if_neg c_11] at hR
              refine lv_iload hx hb dX2_bestDayOf_59 (lv_at hl 3 rfl) ?_
              refine lv_istore_n (lv' := [(3, .int x5_20), (6, .int r9), (4, .int x4_20), (5, .int x5_20), (2, .int v2), (0, .ref (aO 0)), (1, .int p1)]) hx hb dX2_bestDayOf_61 rfl hl (by decide) rfl (fun ls hl => ?_)
              refine lv_iload hx hb dX2_bestDayOf_62 (lv_at hl 1 rfl) ?_
              refine lv_istore (lv' := [(4, .int r9), (3, .int x5_20), (6, .int r9), (5, .int x5_20), (2, .int v2), (0, .ref (aO 0)), (1, .int p1)]) hx hb dX2_bestDayOf_64 hl (by decide) rfl (fun ls hl => ?_)
              refine lv_iinc (v := (x5_20 + 1)) (lv' := [(5, .int (x5_20 + 1)), (4, .int r9), (3, .int x5_20), (6, .int r9), (2, .int v2), (0, .ref (aO 0)), (1, .int p1)]) hx hb dX2_bestDayOf_66 hl (k := 3) rfl rfl (by decide) rfl (fun ls hl => ?_)
              refine lv_goto (tgt := 20) hx hb dX2_bestDayOf_69 (by decide) ?_
              exact ih x5_20 r9 (x5_20 + 1) u6 u7 _ _ hfu hR hP hD hS ls (lv_sub hl [2, 1, 0, 4, 5, 6] rfl)
  refine LOOP20 (fun x3_20 Y_20 S_20 => (x3_20, Y_20, S_20)) (fun x3_20 Y_20 S_20 H2 locs hR hP hD hS ls hl => ?_) 28 (-1 : Int32) (0 : Int32) (0 : Int32) Y S _ _ (by decide) hR hP hD hS ls (lv_sub hl [2, 1, 0, 3, 4, 5] rfl)
  try dsimp only at hR
  refine lv_iload_n hx hb dX2_bestDayOf_72 rfl (lv_at hl 0 rfl) ?_
  exact W.iret (v := x3_20) hx hb hr (fun t ht hW => ⟨⟨x3_20, (Y_20, S_20), rfl, hR, P_at ht hP⟩, hS.F ht⟩) hS.2.2 dX2_bestDayOf_73
