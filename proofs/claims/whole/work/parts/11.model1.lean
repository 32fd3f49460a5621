abbrev rm_X7_match : Room := { frames := 4, cells := 0, slots := 0, locals := 90 }
abbrev q_X7_match (dC : Nat → ClassId) (dI : Nat → Nat → Nat) (cI cZ cS : ClassId) (aM : Nat → Nat) (hs : Int64) (res : Int32 × Pic) (A : Nat → Prop) : Array Value → State → Outcome → State → Prop := va_Qi (fun (r : Int32) (u : Pic) => (r, u) = res ∧ narrow .boolean (.int r) = .int r) (fun u t => va_P (dC, dI) vwCl (wMo cI aM u hs) t.heap) A
set_option maxHeartbeats 4000000 in
set_option maxRecDepth 100000 in
theorem met_X7_match (l : Launch) (dC : Nat → ClassId) (dI : Nat → Nat → Nat) (cI cZ cS : ClassId) (aM : Nat → Nat) (M : Pic) (hs : Int64) (sz : Nat)  (res : Int32 × Pic) (hR : f7_match M = some res) : Met l yX7_match wsX7_match rm_X7_match (va_Pc [.ref (aM 0)] (pW (dC, dI) (tyS cI cZ cS) (wMo cI aM M hs) sz)) (q_X7_match dC dI cI cZ cS aM hs res (va_A (wMo cI aM M hs) sz)) 0 0 (va_A (wMo cI aM M hs) sz) := by
  refine Met.ofW (cc := cX7_match) (maxL := 5) (ret := (some .boolean)) (by decide) rfl ?_
  intro p e s m args below meth c s₁ B hml hv
  obtain ⟨rfl, hsz, hP, hK, hD0, hN⟩ := hv
  have hx := B.exec
  have hb := B.bytes
  have hr := B.returns
  have hts := atoms_spec (ws := wsX7_match) B.pre
  have hown : s.vm.findClass RX7 = some m.cls := findClass_of_methodNamed B.named
  have hlocks := B.notSynchronized
  subst hsz
  have hD := hD0.self (sz := s.heap.size)
  generalize hAe : va_A (wMo cI aM M hs) s.heap.size = A at hD ⊢
  have hA : ∀ q : Nat, s.heap.size ≤ q → A q := fun q h => by rw [← hAe]; exact Or.inr h
  have hS : va_S A s.heap s.heap [] := va_S.rf
  have hP : va_P (dC, dI) vwCl (wMo cI aM M hs) s.heap := hP
  rw [f7_match] at hR
  have hin7 : ∀ w ∈ wsX70, w ∈ wsX7_match := by decide +kernel
  have hl := lv_entry ([.ref (aM 0)]) (n := 5) (Nat.le_of_ble_eq_true rfl)
  rw [lg_entry_eq]
  generalize (lg_sl ([.ref (aM 0)]) ++ List.replicate (5 - (lg_sl ([.ref (aM 0)])).length) Slot.unset).toArray = ls at hl ⊢
  have hl : lv_has ls 5 [(0, .ref (aM 0))] := hl
  refine lv_iconst (v := (0 : Int32)) hx hb dX7_match_0 (by decide) ?_
  refine lv_istore_n (lv' := [(1, .int (0 : Int32)), (0, .ref (aM 0))]) hx hb dX7_match_1 rfl hl (by decide) rfl (fun ls hl => ?_)
  have LOOP2 : ∀ (k : Pic → (Option (Int32 × Pic))), (∀ (M_2 : Pic) (H1 : Heap) (locs : List Loc), k M_2 = some res → va_P (dC, dI) vwCl (wMo cI aM M_2 hs) H1 → va_D A (wMo cI aM M_2 hs) → va_S A s.heap H1 locs → ∀ (ls : Array Slot), lv_has ls 5 [(0, .ref (aM 0))] → W p l e (headSpec wsX7_match rm_X7_match).room s m ([.ref (aM 0)] : List Value).toArray below meth c H1 locs 0 0 (MQ below (q_X7_match dC dI cI cZ cS aM hs res A) ([.ref (aM 0)] : List Value).toArray s 0 0 A) (F0 m 28 ls [])) → ∀ (nf : Nat) (x1_2 : Int32) (M_2 : Pic) (H1 : Heap) (locs : List Loc), ((84 : Int32)).toInt - (x1_2).toInt ≤ (nf : Int) → f7_match_L2  nf x1_2 M_2 k = some res → va_P (dC, dI) vwCl (wMo cI aM M_2 hs) H1 → va_D A (wMo cI aM M_2 hs) → va_S A s.heap H1 locs → ∀ (ls : Array Slot), lv_has ls 5 [(1, .int x1_2), (0, .ref (aM 0))] → W p l e (headSpec wsX7_match rm_X7_match).room s m ([.ref (aM 0)] : List Value).toArray below meth c H1 locs 0 0 (MQ below (q_X7_match dC dI cI cZ cS aM hs res A) ([.ref (aM 0)] : List Value).toArray s 0 0 A) (F0 m 2 ls []) := by
    intro k hk nf
    induction nf with
    | zero =>
      intro x1_2 M_2 H1 locs hfu hR hP hD hS ls hl
      rw [f7_match_L2] at hR
      refine lv_iload_n hx hb dX7_match_2 rfl (lv_at hl 0 rfl) ?_
      refine lv_bipush (v := (84 : Int32)) hx hb dX7_match_3 (by decide) ?_
      refine lv_icmp_ge (tgt := 28) hx hb dX7_match_5 (by decide) (fun c_1 => ?_) (fun c_1 => ?_)
      · skip
        exact hk M_2 _ _  hR hP hD hS ls (lv_sub hl [1] rfl)
      · exact (fuel0 hfu c_1).elim
    | succ nf ih =>
      intro x1_2 M_2 H1 locs hfu hR hP hD hS ls hl
      rw [f7_match_L2] at hR
      refine lv_iload_n hx hb dX7_match_2 rfl (lv_at hl 0 rfl) ?_
      refine lv_bipush (v := (84 : Int32)) hx hb dX7_match_3 (by decide) ?_
      refine lv_icmp_ge (tgt := 28) hx hb dX7_match_5 (by decide) (fun c_2 => ?_) (fun c_2 => ?_)
      · rw [if_pos c_2] at hR
        exact hk M_2 _ _  hR hP hD hS ls (lv_sub hl [1] rfl)
      · rw [if_neg c_2] at hR
        have hfu := fuelS hfu c_2
        refine lv_aload_n hx hb dX7_match_8 rfl (lv_at hl 1 rfl) ?_
        refine va_get (D := (dC, dI)) (ci := 7) (v := .ref (aM 6)) (C := RX7) (T := TX7) (N := 15) hx hb hts hin7 hown hK hP 0 rfl rfl 8 (by decide) (hw_ hts 1 rfl) (fun _ h9 => h9) rfl dX7_match_9 ?_
        refine lv_iload_n hx hb dX7_match_12 rfl (lv_at hl 0 rfl) ?_
        refine lv_iconst (v := (-1 : Int32)) hx hb dX7_match_13 (by decide) ?_
        obtain ⟨hix3, hR⟩ := ck_some hR
        refine va_iast (f := (M_2 8)) hx hb hK hP hD hS 6 0 rfl rfl hix3 dX7_match_14 (fun H2 locs hP hD hS => ?_)
        have hP : va_P (dC, dI) vwCl (wMo cI aM (pset M_2 8 (upd (M_2 8) (ix x1_2) (-1 : Int32))) hs) H2 := hP
        have hD : va_D A (wMo cI aM (pset M_2 8 (upd (M_2 8) (ix x1_2) (-1 : Int32))) hs) := hD
        obtain ⟨Mb4, hMb4⟩ : ∃ z : Pic, z = (pset M_2 8 (upd (M_2 8) (ix x1_2) (-1 : Int32))) := ⟨_, rfl⟩
        rw [← hMb4] at hP hD
        have hR := bd_n hMb4 hR
        refine lv_aload_n hx hb dX7_match_15 rfl (lv_at hl 1 rfl) ?_
        refine va_get (D := (dC, dI)) (ci := 7) (v := .ref (aM 7)) (C := RX7) (T := TX7) (N := 15) hx hb hts hin7 hown hK hP 0 rfl rfl 9 (by decide) (hw_ hts 2 rfl) (fun _ h9 => h9) rfl dX7_match_16 ?_
        refine lv_iload_n hx hb dX7_match_19 rfl (lv_at hl 0 rfl) ?_
        refine lv_iconst (v := (0 : Int32)) hx hb dX7_match_20 (by decide) ?_
        obtain ⟨hix5, hR⟩ := ck_some hR
        refine va_iast (f := (Mb4 9)) hx hb hK hP hD hS 7 0 rfl rfl hix5 dX7_match_21 (fun H3 locs hP hD hS => ?_)
        have hP : va_P (dC, dI) vwCl (wMo cI aM (pset Mb4 9 (upd (Mb4 9) (ix x1_2) (0 : Int32))) hs) H3 := hP
        have hD : va_D A (wMo cI aM (pset Mb4 9 (upd (Mb4 9) (ix x1_2) (0 : Int32))) hs) := hD
        obtain ⟨Mb6, hMb6⟩ : ∃ z : Pic, z = (pset Mb4 9 (upd (Mb4 9) (ix x1_2) (0 : Int32))) := ⟨_, rfl⟩
        rw [← hMb6] at hP hD
        have hR := bd_n hMb6 hR
        refine lv_iinc (v := (x1_2 + 1)) (lv' := [(1, .int (x1_2 + 1)), (0, .ref (aM 0))]) hx hb dX7_match_22 hl (k := 0) rfl rfl (by decide) rfl (fun ls hl => ?_)
        refine lv_goto (tgt := 2) hx hb dX7_match_25 (by decide) ?_
        exact ih (x1_2 + 1) Mb6 _ _ hfu hR hP hD hS ls (lv_sub hl [0, 1] rfl)
  refine LOOP2 (fun M_2 => (f7_match_L32  84 (1 : Int32) (0 : Int32) M_2 (fun x1_32 M_32 => (some (x1_32, M_32))))) (fun M_2 H1 locs hR hP hD hS ls hl => ?_) 84 (0 : Int32) M _ _ (by decide) hR hP hD hS ls (lv_sub hl [0, 1] rfl)
  try dsimp only at hR
  refine lv_iconst (v := (1 : Int32)) hx hb dX7_match_28 (by decide) ?_
  refine lv_istore_n (lv' := [(1, .int (1 : Int32)), (0, .ref (aM 0))]) hx hb dX7_match_29 rfl hl (by decide) rfl (fun ls hl => ?_)
  refine lv_iconst (v := (0 : Int32)) hx hb dX7_match_30 (by decide) ?_
  refine lv_istore_n (lv' := [(2, .int (0 : Int32)), (1, .int (1 : Int32)), (0, .ref (aM 0))]) hx hb dX7_match_31 rfl hl (by decide) rfl (fun ls hl => ?_)
  have LOOP32 : ∀ (k : Int32 → Pic → (Option (Int32 × Pic))), (∀ (x1_32 : Int32) (M_32 : Pic) (H2 : Heap) (locs : List Loc), narrow .boolean (.int x1_32) = .int x1_32 → k x1_32 M_32 = some res → va_P (dC, dI) vwCl (wMo cI aM M_32 hs) H2 → va_D A (wMo cI aM M_32 hs) → va_S A s.heap H2 locs → ∀ (ls : Array Slot), lv_has ls 5 [(1, .int x1_32)] → W p l e (headSpec wsX7_match rm_X7_match).room s m ([.ref (aM 0)] : List Value).toArray below meth c H2 locs 0 0 (MQ below (q_X7_match dC dI cI cZ cS aM hs res A) ([.ref (aM 0)] : List Value).toArray s 0 0 A) (F0 m 115 ls [])) → ∀ (nf : Nat) (x1_32 : Int32) (x2_32 : Int32) (M_32 : Pic) (H2 : Heap) (locs : List Loc), ((84 : Int32)).toInt - (x2_32).toInt ≤ (nf : Int) → narrow .boolean (.int x1_32) = .int x1_32 → f7_match_L32  nf x1_32 x2_32 M_32 k = some res → va_P (dC, dI) vwCl (wMo cI aM M_32 hs) H2 → va_D A (wMo cI aM M_32 hs) → va_S A s.heap H2 locs → ∀ (ls : Array Slot), lv_has ls 5 [(1, .int x1_32), (2, .int x2_32), (0, .ref (aM 0))] → W p l e (headSpec wsX7_match rm_X7_match).room s m ([.ref (aM 0)] : List Value).toArray below meth c H2 locs 0 0 (MQ below (q_X7_match dC dI cI cZ cS aM hs res A) ([.ref (aM 0)] : List Value).toArray s 0 0 A) (F0 m 32 ls []) := by
    intro k hk nf
    induction nf with
    | zero =>
      intro x1_32 x2_32 M_32 H2 locs hfu hnb1 hR hP hD hS ls hl
      rw [f7_match_L32] at hR
      refine lv_iload_n hx hb dX7_match_32 rfl (lv_at hl 1 rfl) ?_
      refine lv_bipush (v := (84 : Int32)) hx hb dX7_match_33 (by decide) ?_
      refine lv_icmp_ge (tgt := 115) hx hb dX7_match_35 (by decide) (fun c_7 => ?_) (fun c_7 => ?_)
      · skip
        exact hk x1_32 M_32 _ _ hnb1 hR hP hD hS ls (lv_sub hl [0] rfl)
      · exact (fuel0 hfu c_7).elim
    | succ nf ih =>
      intro x1_32 x2_32 M_32 H2 locs hfu hnb1 hR hP hD hS ls hl
      rw [f7_match_L32] at hR
      refine lv_iload_n hx hb dX7_match_32 rfl (lv_at hl 1 rfl) ?_
      refine lv_bipush (v := (84 : Int32)) hx hb dX7_match_33 (by decide) ?_
      refine lv_icmp_ge (tgt := 115) hx hb dX7_match_35 (by decide) (fun c_8 => ?_) (fun c_8 => ?_)
      · rw [if_pos c_8] at hR
        exact hk x1_32 M_32 _ _ hnb1 hR hP hD hS ls (lv_sub hl [0] rfl)
      · rw [if_neg c_8] at hR
        have hfu := fuelS hfu c_8
        refine lv_aload_n hx hb dX7_match_38 rfl (lv_at hl 2 rfl) ?_
        refine va_get (D := (dC, dI)) (ci := 7) (v := .ref (aM 1)) (C := RX7) (T := TX7) (N := 15) hx hb hts hin7 hown hK hP 0 rfl rfl 0 (by decide) (hw_ hts 3 rfl) (fun _ h9 => h9) rfl dX7_match_39 ?_
        refine lv_bipush (v := (89 : Int32)) hx hb dX7_match_42 (by decide) ?_
        refine lv_iload_n hx hb dX7_match_44 rfl (lv_at hl 1 rfl) ?_
        refine lv_iadd hx hb dX7_match_45 ?_
        obtain ⟨hix9, hR⟩ := ck_some hR
        refine va_iald (f := (M_32 0)) hx hb hK hP 1 0 rfl rfl hix9 dX7_match_46 ?_
        refine lv_topi (fun v10 hv10 => ?_)
        have hR := bd_n hv10 hR
        refine lv_istore_n (lv' := [(3, .int v10), (1, .int x1_32), (2, .int x2_32), (0, .ref (aM 0))]) hx hb dX7_match_47 rfl hl (by decide) rfl (fun ls hl => ?_)
        refine lv_iload_n hx hb dX7_match_48 rfl (lv_at hl 0 rfl) ?_
        refine lv_iconst (v := (-1 : Int32)) hx hb dX7_match_49 (by decide) ?_
        refine lv_icmp_eq (tgt := 109) hx hb dX7_match_50 (by decide) (fun c_11 => ?_) (fun c_11 => ?_)
        · rw [if_pos c_11] at hR
          refine lv_iinc (v := (x2_32 + 1)) (lv' := [(2, .int (x2_32 + 1)), (3, .int v10), (1, .int x1_32), (0, .ref (aM 0))]) hx hb dX7_match_109 hl (k := 2) rfl rfl (by decide) rfl (fun ls hl => ?_)
          refine lv_goto (tgt := 32) hx hb dX7_match_112 (by decide) ?_
          exact ih x1_32 (x2_32 + 1) M_32 _ _ hfu hnb1 hR hP hD hS ls (lv_sub hl [2, 0, 3] rfl)
        · rw [if_neg c_11] at hR
          refine lv_aload_n hx hb dX7_match_53 rfl (lv_at hl 3 rfl) ?_
          refine lv_iload_n hx hb dX7_match_54 rfl (lv_at hl 0 rfl) ?_
          obtain ⟨r12, hc13, hR⟩ := ob1_e hR
          refine va_calli (va_runV (As := [.int v10]) (rest := []) ⟨hx, hb, hml, hown, hts⟩ (met_X7_isLeftover l dC dI cI cZ cS aM M_32 hs H2.size v10 r12 hc13) (cwV 1 hts gX7_match_X7_isLeftover rfl rfl rfl (by decide +kernel) ⟨Nat.le_of_ble_eq_true rfl, Nat.le_of_ble_eq_true rfl⟩) (pV (wc := wMo cI aM M_32 hs) (ci := 7) (q0 := 0) hK hP hD hN [0, 1, 2, 3, 4, 5, 6, 7, 8] rfl (by decide) rfl rfl) rfl rfl hl.1 rfl (lv_room (Nat.le_of_ble_eq_true rfl)) dX7_match_55 ⟨Nat.zero_le _, Nat.zero_le _⟩) hS (fun q _ h => a0_in hS hA q h) (a0_in hS hA) (fun r12 u t H3 locs ht hvm hw hB hz1 hk1 hS => ?_)
          obtain ⟨hw, nb14⟩ := hw
          cases hw
          have hP := rdk hP hk1
          refine lv_if_eq (tgt := 109) hx hb dX7_match_58 (by decide) (fun c_15 => ?_) (fun c_15 => ?_)
          · rw [if_pos c_15] at hR
            refine lv_iinc (v := (x2_32 + 1)) (lv' := [(2, .int (x2_32 + 1)), (3, .int v10), (1, .int x1_32), (0, .ref (aM 0))]) hx hb dX7_match_109 hl (k := 2) rfl rfl (by decide) rfl (fun ls hl => ?_)
            refine lv_goto (tgt := 32) hx hb dX7_match_112 (by decide) ?_
            exact ih x1_32 (x2_32 + 1) M_32 _ _ hfu hnb1 hR hP hD hS ls (lv_sub hl [2, 0, 3] rfl)
          · rw [if_neg c_15] at hR
            refine lv_aload_n hx hb dX7_match_61 rfl (lv_at hl 3 rfl) ?_
            refine lv_iload_n hx hb dX7_match_62 rfl (lv_at hl 0 rfl) ?_
            refine lv_iload_n hx hb dX7_match_63 rfl (lv_at hl 2 rfl) ?_
            refine lv_iconst (v := (3 : Int32)) hx hb dX7_match_64 (by decide) ?_
            refine lv_idiv hx hb dX7_match_65 (by decide) ?_
            obtain ⟨r16, hc17, hR⟩ := ob1_e hR
            refine va_calli (va_runV (As := [.int v10, .int (x2_32 / (3 : Int32))]) (rest := []) ⟨hx, hb, hml, hown, hts⟩ (met_X7_sourceFor l dC dI cI cZ cS aM M_32 hs H3.size v10 (x2_32 / (3 : Int32)) r16 hc17) (cwV 2 hts gX7_match_X7_sourceFor rfl rfl rfl (by decide +kernel) ⟨Nat.le_of_ble_eq_true rfl, Nat.le_of_ble_eq_true rfl⟩) (pV (wc := wMo cI aM M_32 hs) (ci := 7) (q0 := 0) hK hP hD hN [0, 1, 2, 3, 4, 5, 6, 7, 8] rfl (by decide) rfl rfl) rfl rfl hl.1 rfl (lv_room (Nat.le_of_ble_eq_true rfl)) dX7_match_66 ⟨Nat.zero_le _, Nat.zero_le _⟩) hS (fun q _ h => a0_in hS hA q h) (a0_in hS hA) (fun r16 u t H4 locs ht hvm hw hB hz1 hk1 hS => ?_)
            cases hw
            have hP := rdk hP hk1
            refine lv_istore (lv' := [(4, .int r16), (3, .int v10), (1, .int x1_32), (2, .int x2_32), (0, .ref (aM 0))]) hx hb dX7_match_69 hl (by decide) rfl (fun ls hl => ?_)
            refine lv_aload_n hx hb dX7_match_71 rfl (lv_at hl 4 rfl) ?_
            refine va_get (D := (dC, dI)) (ci := 7) (v := .ref (aM 6)) (C := RX7) (T := TX7) (N := 15) hx hb hts hin7 hown hK hP 0 rfl rfl 8 (by decide) (hw_ hts 1 rfl) (fun _ h9 => h9) rfl dX7_match_72 ?_
            refine lv_iload_n hx hb dX7_match_75 rfl (lv_at hl 3 rfl) ?_
            refine lv_iload hx hb dX7_match_76 (lv_at hl 0 rfl) ?_
            obtain ⟨hix18, hR⟩ := ck_some hR
            refine va_iast (f := (M_32 8)) hx hb hK hP hD hS 6 0 rfl rfl hix18 dX7_match_78 (fun H5 locs hP hD hS => ?_)
            have hP : va_P (dC, dI) vwCl (wMo cI aM (pset M_32 8 (upd (M_32 8) (ix x2_32) r16)) hs) H5 := hP
            have hD : va_D A (wMo cI aM (pset M_32 8 (upd (M_32 8) (ix x2_32) r16)) hs) := hD
            obtain ⟨Mb19, hMb19⟩ : ∃ z : Pic, z = (pset M_32 8 (upd (M_32 8) (ix x2_32) r16)) := ⟨_, rfl⟩
            rw [← hMb19] at hP hD
            have hR := bd_n hMb19 hR
            refine lv_iload_n hx hb dX7_match_79 rfl (lv_at hl 2 rfl) ?_
            refine lv_if_eq (tgt := 93) hx hb dX7_match_80 (by decide) (fun c_20 => ?_) (fun c_20 => ?_)
            · rw [if_pos c_20] at hR
              refine lv_iconst (v := (0 : Int32)) hx hb dX7_match_93 (by decide) ?_
              refine lv_istore_n (lv' := [(1, .int (0 : Int32)), (4, .int r16), (3, .int v10), (2, .int x2_32), (0, .ref (aM 0))]) hx hb dX7_match_94 rfl hl (by decide) rfl (fun ls hl => ?_)
              refine lv_iload hx hb dX7_match_95 (lv_at hl 1 rfl) ?_
              refine lv_iconst (v := (-1 : Int32)) hx hb dX7_match_97 (by decide) ?_
              refine lv_icmp_eq (tgt := 109) hx hb dX7_match_98 (by decide) (fun c_21 => ?_) (fun c_21 => ?_)
              · rw [if_pos c_21] at hR
                refine lv_iinc (v := (x2_32 + 1)) (lv' := [(2, .int (x2_32 + 1)), (1, .int (0 : Int32)), (4, .int r16), (3, .int v10), (0, .ref (aM 0))]) hx hb dX7_match_109 hl (k := 3) rfl rfl (by decide) rfl (fun ls hl => ?_)
                refine lv_goto (tgt := 32) hx hb dX7_match_112 (by decide) ?_
                exact ih (0 : Int32) (x2_32 + 1) Mb19 _ _ hfu rfl hR hP hD hS ls (lv_sub hl [1, 0, 4] rfl)
              · rw [if_neg c_21] at hR
                refine lv_aload_n hx hb dX7_match_101 rfl (lv_at hl 4 rfl) ?_
                refine va_get (D := (dC, dI)) (ci := 7) (v := .ref (aM 7)) (C := RX7) (T := TX7) (N := 15) hx hb hts hin7 hown hK hP 0 rfl rfl 9 (by decide) (hw_ hts 2 rfl) (fun _ h9 => h9) rfl dX7_match_102 ?_
                refine lv_iload hx hb dX7_match_105 (lv_at hl 1 rfl) ?_
                refine lv_iconst (v := (1 : Int32)) hx hb dX7_match_107 (by decide) ?_
                obtain ⟨hix22, hR⟩ := ck_some hR
                refine va_iast (f := (Mb19 9)) hx hb hK hP hD hS 7 0 rfl rfl hix22 dX7_match_108 (fun H6 locs hP hD hS => ?_)
                have hP : va_P (dC, dI) vwCl (wMo cI aM (pset Mb19 9 (upd (Mb19 9) (ix r16) (1 : Int32))) hs) H6 := hP
                have hD : va_D A (wMo cI aM (pset Mb19 9 (upd (Mb19 9) (ix r16) (1 : Int32))) hs) := hD
                obtain ⟨Mb23, hMb23⟩ : ∃ z : Pic, z = (pset Mb19 9 (upd (Mb19 9) (ix r16) (1 : Int32))) := ⟨_, rfl⟩
                rw [← hMb23] at hP hD
                have hR := bd_n hMb23 hR
                refine lv_iinc (v := (x2_32 + 1)) (lv' := [(2, .int (x2_32 + 1)), (1, .int (0 : Int32)), (4, .int r16), (3, .int v10), (0, .ref (aM 0))]) hx hb dX7_match_109 hl (k := 3) rfl rfl (by decide) rfl (fun ls hl => ?_)
                refine lv_goto (tgt := 32) hx hb dX7_match_112 (by decide) ?_
                exact ih (0 : Int32) (x2_32 + 1) Mb23 _ _ hfu rfl hR hP hD hS ls (lv_sub hl [1, 0, 4] rfl)
            · rw [if_neg c_20] at hR
              refine lv_iload hx hb dX7_match_83 (lv_at hl 0 rfl) ?_
              refine lv_iconst (v := (-1 : Int32)) hx hb dX7_match_85 (by decide) ?_
              refine lv_icmp_eq (tgt := 93) hx hb dX7_match_86 (by decide) (fun c_24 => ?_) (fun c_24 => ?_)
              · rw [if_pos c_24] at hR
                refine lv_iconst (v := (0 : Int32)) hx hb dX7_match_93 (by decide) ?_
                refine lv_istore_n (lv' := [(1, .int (0 : Int32)), (4, .int r16), (3, .int v10), (2, .int x2_32), (0, .ref (aM 0))]) hx hb dX7_match_94 rfl hl (by decide) rfl (fun ls hl => ?_)
                refine lv_iload hx hb dX7_match_95 (lv_at hl 1 rfl) ?_
                refine lv_iconst (v := (-1 : Int32)) hx hb dX7_match_97 (by decide) ?_
                refine lv_icmp_eq (tgt := 109) hx hb dX7_match_98 (by decide) (fun _ => ?_) (fun q => absurd c_24 q)
                refine lv_iinc (v := (x2_32 + 1)) (lv' := [(2, .int (x2_32 + 1)), (1, .int (0 : Int32)), (4, .int r16), (3, .int v10), (0, .ref (aM 0))]) hx hb dX7_match_109 hl (k := 3) rfl rfl (by decide) rfl (fun ls hl => ?_)
                refine lv_goto (tgt := 32) hx hb dX7_match_112 (by decide) ?_
                exact ih (0 : Int32) (x2_32 + 1) Mb19 _ _ hfu rfl hR hP hD hS ls (lv_sub hl [1, 0, 4] rfl)
              · rw [if_neg c_24] at hR
                refine lv_iconst (v := (1 : Int32)) hx hb dX7_match_89 (by decide) ?_
                refine lv_goto (tgt := 94) hx hb dX7_match_90 (by decide) ?_
                refine lv_istore_n (lv' := [(1, .int (1 : Int32)), (4, .int r16), (3, .int v10), (2, .int x2_32), (0, .ref (aM 0))]) hx hb dX7_match_94 rfl hl (by decide) rfl (fun ls hl => ?_)
                refine lv_iload hx hb dX7_match_95 (lv_at hl 1 rfl) ?_
                refine lv_iconst (v := (-1 : Int32)) hx hb dX7_match_97 (by decide) ?_
                refine lv_icmp_eq (tgt := 109) hx hb dX7_match_98 (by decide) (fun q => absurd q c_24) (fun _ => ?_)
                refine lv_aload_n hx hb dX7_match_101 rfl (lv_at hl 4 rfl) ?_
                refine va_get (D := (dC, dI)) (ci := 7) (v := .ref (aM 7)) (C := RX7) (T := TX7) (N := 15) hx hb hts hin7 hown hK hP 0 rfl rfl 9 (by decide) (hw_ hts 2 rfl) (fun _ h9 => h9) rfl dX7_match_102 ?_
                refine lv_iload hx hb dX7_match_105 (lv_at hl 1 rfl) ?_
                refine lv_iconst (v := (1 : Int32)) hx hb dX7_match_107 (by decide) ?_
                obtain ⟨hix25, hR⟩ := ck_some hR
                refine va_iast (f := (Mb19 9)) hx hb hK hP hD hS 7 0 rfl rfl hix25 dX7_match_108 (fun H6 locs hP hD hS => ?_)
                have hP : va_P (dC, dI) vwCl (wMo cI aM (pset Mb19 9 (upd (Mb19 9) (ix r16) (1 : Int32))) hs) H6 := hP
                have hD : va_D A (wMo cI aM (pset Mb19 9 (upd (Mb19 9) (ix r16) (1 : Int32))) hs) := hD
                obtain ⟨Mb26, hMb26⟩ : ∃ z : Pic, z = (pset Mb19 9 (upd (Mb19 9) (ix r16) (1 : Int32))) := ⟨_, rfl⟩
                rw [← hMb26] at hP hD
                have hR := bd_n hMb26 hR
                refine lv_iinc (v := (x2_32 + 1)) (lv' := [(2, .int (x2_32 + 1)), (1, .int (1 : Int32)), (4, .int r16), (3, .int v10), (0, .ref (aM 0))]) hx hb dX7_match_109 hl (k := 3) rfl rfl (by decide) rfl (fun ls hl => ?_)
                refine lv_goto (tgt := 32) hx hb dX7_match_112 (by decide) ?_
                exact ih (1 : Int32) (x2_32 + 1) Mb26 _ _ hfu rfl hR hP hD hS ls (lv_sub hl [1, 0, 4] rfl)
  refine LOOP32 (fun x1_32 M_32 => (some (x1_32, M_32))) (fun x1_32 M_32 H2 locs hnb1 hR hP hD hS ls hl => ?_) 84 (1 : Int32) (0 : Int32) M_2 _ _ (by decide) rfl hR hP hD hS ls (lv_sub hl [1, 0, 2] rfl)
  try dsimp only at hR
  refine lv_iload_n hx hb dX7_match_115 rfl (lv_at hl 0 rfl) ?_
  exact W.zret (v := x1_32) (ty := .boolean) hx hb hr hnb1 (fun t ht hW => ⟨⟨x1_32, M_32, rfl, ⟨Option.some.inj hR, hnb1⟩, P_at ht hP⟩, hS.F ht⟩) hS.2.2 dX7_match_116
abbrev rm_X7_vetoed : Room := { frames := 1, cells := 0, slots := 0, locals := 22 }
abbrev q_X7_vetoed (dC : Nat → ClassId) (dI : Nat → Nat → Nat) (cI cZ cS : ClassId) (aM : Nat → Nat)  (res : Int32) (A : Nat → Prop) : Array Value → State → Outcome → State → Prop := va_Qi (fun (r : Int32) (u : Unit) => r = res) (fun _ _ => True) A
set_option maxHeartbeats 4000000 in
set_option maxRecDepth 100000 in
theorem met_X7_vetoed (l : Launch) (dC : Nat → ClassId) (dI : Nat → Nat → Nat) (cI cZ cS : ClassId) (aM : Nat → Nat) (M : Pic) (hs : Int64) (sz : Nat) (p1 : Int32) (res : Int32) (hR : f7_vetoed M p1 = some res) : Met l yX7_vetoed wsX7_vetoed rm_X7_vetoed (va_Pc [.ref (aM 0), .int p1] (pW (dC, dI) (tyS cI cZ cS) (wMo cI aM M hs) sz)) (q_X7_vetoed dC dI cI cZ cS aM res (a0 sz)) 0 0 (a0 sz) := by
  refine Met.ofW (cc := cX7_vetoed) (maxL := 4) (ret := (some .int)) (by decide) rfl ?_
  intro p e s m args below meth c s₁ B hml hv
  obtain ⟨rfl, hsz, hP, hK, hD0, hN⟩ := hv
  have hx := B.exec
  have hb := B.bytes
  have hr := B.returns
  have hts := atoms_spec (ws := wsX7_vetoed) B.pre
  have hown : s.vm.findClass RX7 = some m.cls := findClass_of_methodNamed B.named
  have hlocks := B.notSynchronized
  subst hsz
  have hD := hD0
  have hA : ∀ q : Nat, s.heap.size ≤ q → a0 s.heap.size q := fun q h => Or.inr h
  have hS : va_S (a0 s.heap.size) s.heap s.heap [] := va_S.rf
  have hP : va_P (dC, dI) vwCl (wMo cI aM M hs) s.heap := hP
  rw [f7_vetoed] at hR
  have hin7 : ∀ w ∈ wsX70, w ∈ wsX7_vetoed := by decide +kernel
  have hl := lv_entry ([.ref (aM 0), .int p1]) (n := 4) (Nat.le_of_ble_eq_true rfl)
  rw [lg_entry_eq]
  generalize (lg_sl ([.ref (aM 0), .int p1]) ++ List.replicate (4 - (lg_sl ([.ref (aM 0), .int p1])).length) Slot.unset).toArray = ls at hl ⊢
  have hl : lv_has ls 4 [(0, .ref (aM 0)), (1, .int p1)] := hl
  refine lv_iconst (v := (0 : Int32)) hx hb dX7_vetoed_0 (by decide) ?_
  refine lv_istore_n (lv' := [(2, .int (0 : Int32)), (0, .ref (aM 0)), (1, .int p1)]) hx hb dX7_vetoed_1 rfl hl (by decide) rfl (fun ls hl => ?_)
  refine lv_iconst (v := (0 : Int32)) hx hb dX7_vetoed_2 (by decide) ?_
  refine lv_istore_n (lv' := [(3, .int (0 : Int32)), (2, .int (0 : Int32)), (0, .ref (aM 0)), (1, .int p1)]) hx hb dX7_vetoed_3 rfl hl (by decide) rfl (fun ls hl => ?_)
  have LOOP4 : ∀ (k : Int32 → (Option (Int32))), (∀ (x2_4 : Int32) (H1 : Heap) (locs : List Loc), k x2_4 = some res → va_P (dC, dI) vwCl (wMo cI aM M hs) H1 → va_D (fun _ => True) (wMo cI aM M hs) → va_S (a0 s.heap.size) s.heap H1 locs → ∀ (ls : Array Slot), lv_has ls 4 [(2, .int x2_4)] → W p l e (headSpec wsX7_vetoed rm_X7_vetoed).room s m ([.ref (aM 0), .int p1] : List Value).toArray below meth c H1 locs 0 0 (MQ below (q_X7_vetoed dC dI cI cZ cS aM res (a0 s.heap.size)) ([.ref (aM 0), .int p1] : List Value).toArray s 0 0 (a0 s.heap.size)) (F0 m 49 ls [])) → ∀ (nf : Nat) (x2_4 : Int32) (x3_4 : Int32) (H1 : Heap) (locs : List Loc), (((M 0) (ix (4 : Int32)))).toInt - (x3_4).toInt ≤ (nf : Int) → f7_vetoed_L4 M p1 nf x2_4 x3_4 k = some res → va_P (dC, dI) vwCl (wMo cI aM M hs) H1 → va_D (fun _ => True) (wMo cI aM M hs) → va_S (a0 s.heap.size) s.heap H1 locs → ∀ (ls : Array Slot), lv_has ls 4 [(2, .int x2_4), (3, .int x3_4), (0, .ref (aM 0)), (1, .int p1)] → W p l e (headSpec wsX7_vetoed rm_X7_vetoed).room s m ([.ref (aM 0), .int p1] : List Value).toArray below meth c H1 locs 0 0 (MQ below (q_X7_vetoed dC dI cI cZ cS aM res (a0 s.heap.size)) ([.ref (aM 0), .int p1] : List Value).toArray s 0 0 (a0 s.heap.size)) (F0 m 4 ls []) := by
    intro k hk nf
    induction nf with
    | zero =>
      intro x2_4 x3_4 H1 locs hfu hR hP hD hS ls hl
      rw [f7_vetoed_L4] at hR
      refine lv_iload_n hx hb dX7_vetoed_4 rfl (lv_at hl 1 rfl) ?_
      refine lv_aload_n hx hb dX7_vetoed_5 rfl (lv_at hl 2 rfl) ?_
      refine va_get (D := (dC, dI)) (ci := 7) (v := .ref (aM 1)) (C := RX7) (T := TX7) (N := 15) hx hb hts hin7 hown hK hP 0 rfl rfl 0 (by decide) (hw_ hts 1 rfl) (fun _ h9 => h9) rfl dX7_vetoed_6 ?_
      refine lv_iconst (v := (4 : Int32)) hx hb dX7_vetoed_9 (by decide) ?_
      refine va_iald (f := (M 0)) hx hb hK hP 1 0 rfl rfl (vp_in_nI (n := 4) (by decide) (by decide)) dX7_vetoed_10 ?_
      refine lv_icmp_ge (tgt := 49) hx hb dX7_vetoed_11 (by decide) (fun c_1 => ?_) (fun c_1 => ?_)
      · skip
        exact hk x2_4 _ _  hR hP hD hS ls (lv_sub hl [0] rfl)
      · exact (fuel0 hfu c_1).elim
    | succ nf ih =>
      intro x2_4 x3_4 H1 locs hfu hR hP hD hS ls hl
      rw [f7_vetoed_L4] at hR
      refine lv_iload_n hx hb dX7_vetoed_4 rfl (lv_at hl 1 rfl) ?_
      refine lv_aload_n hx hb dX7_vetoed_5 rfl (lv_at hl 2 rfl) ?_
      refine va_get (D := (dC, dI)) (ci := 7) (v := .ref (aM 1)) (C := RX7) (T := TX7) (N := 15) hx hb hts hin7 hown hK hP 0 rfl rfl 0 (by decide) (hw_ hts 1 rfl) (fun _ h9 => h9) rfl dX7_vetoed_6 ?_
      refine lv_iconst (v := (4 : Int32)) hx hb dX7_vetoed_9 (by decide) ?_
      refine va_iald (f := (M 0)) hx hb hK hP 1 0 rfl rfl (vp_in_nI (n := 4) (by decide) (by decide)) dX7_vetoed_10 ?_
      refine lv_icmp_ge (tgt := 49) hx hb dX7_vetoed_11 (by decide) (fun c_2 => ?_) (fun c_2 => ?_)
      · rw [if_pos c_2] at hR
        exact hk x2_4 _ _  hR hP hD hS ls (lv_sub hl [0] rfl)
      · rw [if_neg c_2] at hR
        have hfu := fuelS hfu c_2
        refine lv_iload_n hx hb dX7_vetoed_14 rfl (lv_at hl 0 rfl) ?_
        refine lv_aload_n hx hb dX7_vetoed_15 rfl (lv_at hl 2 rfl) ?_
        refine lv_iload_n hx hb dX7_vetoed_16 rfl (lv_at hl 1 rfl) ?_
        refine lv_iconst (v := (0 : Int32)) hx hb dX7_vetoed_17 (by decide) ?_
        obtain ⟨r3, hc4, hR⟩ := ob1_e hR
        refine va_calli (va_runV (As := [.int x3_4, .int (0 : Int32)]) (rest := [.int x2_4]) ⟨hx, hb, hml, hown, hts⟩ (met_X7_ofGuest l dC dI cI cZ cS aM M hs H1.size x3_4 (0 : Int32) r3 hc4) (cwV 2 hts gX7_vetoed_X7_ofGuest rfl rfl rfl (by decide +kernel) ⟨Nat.le_of_ble_eq_true rfl, Nat.le_of_ble_eq_true rfl⟩) (pV (wc := wMo cI aM M hs) (ci := 7) (q0 := 0) hK hP hD hN [0, 1, 2, 3, 4, 5, 6, 7, 8] rfl (by decide) rfl rfl) rfl rfl hl.1 rfl (lv_room (Nat.le_of_ble_eq_true rfl)) dX7_vetoed_18 ⟨Nat.zero_le _, Nat.zero_le _⟩) hS (fun q _ h => a0_in hS hA q h) (a0_in hS hA) (fun r3 u t H2 locs ht hvm hw hB hz1 hk1 hS => ?_)
        cases hw
        have hP := rdk hP hk1
        refine lv_iload_n hx hb dX7_vetoed_21 rfl (lv_at hl 3 rfl) ?_
        refine lv_bipush (v := (7 : Int32)) hx hb dX7_vetoed_22 (by decide) ?_
        refine lv_irem hx hb dX7_vetoed_24 (by decide) ?_
        refine va_calli (va_runS (As := [.int r3, .int (p1 - p1 / (7 : Int32) * (7 : Int32))]) (rest := [.int x2_4]) ⟨hx, hb, hml, hown, hts⟩ (met_X7_has l dC dI cI cZ cS H2.size r3 (p1 - p1 / (7 : Int32) * (7 : Int32))) (va_cwS 2 hts gX7_vetoed_X7_has rfl rfl rfl (by decide +kernel) ⟨Nat.le_of_ble_eq_true rfl, Nat.le_of_ble_eq_true rfl⟩) (pS (wc := []) hK hP hD hN [] rfl (by decide)) rfl rfl hl.1 rfl (lv_room (Nat.le_of_ble_eq_true rfl)) dX7_vetoed_25 ⟨Nat.zero_le _, Nat.zero_le _⟩) hS (fun q _ h => a0_in hS hA q h) (a0_in hS hA) (fun r5 u t H3 locs ht hvm hw hB hz1 hk1 hS => ?_)
        obtain ⟨hw, nb6⟩ := hw
        subst hw
        have hP := rdk hP hk1
        refine lv_if_eq (tgt := 40) hx hb dX7_vetoed_28 (by decide) (fun c_7 => ?_) (fun c_7 => ?_)
        · rw [if_pos c_7] at hR
          refine lv_iconst (v := (0 : Int32)) hx hb dX7_vetoed_40 (by decide) ?_
          refine lv_ior hx hb dX7_vetoed_41 ?_
          refine lv_topi (fun v8 hv8 => ?_)
          have hR := bd_n hv8 hR
          refine lv_istore_n (lv' := [(2, .int v8), (3, .int x3_4), (0, .ref (aM 0)), (1, .int p1)]) hx hb dX7_vetoed_42 rfl hl (by decide) rfl (fun ls hl => ?_)
          refine lv_iinc (v := (x3_4 + 1)) (lv' := [(3, .int (x3_4 + 1)), (2, .int v8), (0, .ref (aM 0)), (1, .int p1)]) hx hb dX7_vetoed_43 hl (k := 1) rfl rfl (by decide) rfl (fun ls hl => ?_)
          refine lv_goto (tgt := 4) hx hb dX7_vetoed_46 (by decide) ?_
          exact ih v8 (x3_4 + 1) _ _ hfu hR hP hD hS ls (lv_sub hl [1, 0, 2, 3] rfl)
        · rw [if_neg c_7] at hR
          refine lv_aload_n hx hb dX7_vetoed_31 rfl (lv_at hl 2 rfl) ?_
          refine lv_iload_n hx hb dX7_vetoed_32 rfl (lv_at hl 1 rfl) ?_
          refine lv_iconst (v := (1 : Int32)) hx hb dX7_vetoed_33 (by decide) ?_
          obtain ⟨r9, hc10, hR⟩ := ob1_e hR
          refine va_calli (va_runV (As := [.int x3_4, .int (1 : Int32)]) (rest := [.int x2_4]) ⟨hx, hb, hml, hown, hts⟩ (met_X7_ofGuest l dC dI cI cZ cS aM M hs H3.size x3_4 (1 : Int32) r9 hc10) (cwV 2 hts gX7_vetoed_X7_ofGuest rfl rfl rfl (by decide +kernel) ⟨Nat.le_of_ble_eq_true rfl, Nat.le_of_ble_eq_true rfl⟩) (pV (wc := wMo cI aM M hs) (ci := 7) (q0 := 0) hK hP hD hN [0, 1, 2, 3, 4, 5, 6, 7, 8] rfl (by decide) rfl rfl) rfl rfl hl.1 rfl (lv_room (Nat.le_of_ble_eq_true rfl)) dX7_vetoed_34 ⟨Nat.zero_le _, Nat.zero_le _⟩) hS (fun q _ h => a0_in hS hA q h) (a0_in hS hA) (fun r9 u t H4 locs ht hvm hw hB hz1 hk1 hS => ?_)
          cases hw
          have hP := rdk hP hk1
          refine lv_goto (tgt := 41) hx hb dX7_vetoed_37 (by decide) ?_
          refine lv_ior hx hb dX7_vetoed_41 ?_
          refine lv_topi (fun v11 hv11 => ?_)
          have hR := bd_n hv11 hR
          refine lv_istore_n (lv' := [(2, .int v11), (3, .int x3_4), (0, .ref (aM 0)), (1, .int p1)]) hx hb dX7_vetoed_42 rfl hl (by decide) rfl (fun ls hl => ?_)
          refine lv_iinc (v := (x3_4 + 1)) (lv' := [(3, .int (x3_4 + 1)), (2, .int v11), (0, .ref (aM 0)), (1, .int p1)]) hx hb dX7_vetoed_43 hl (k := 1) rfl rfl (by decide) rfl (fun ls hl => ?_)
          refine lv_goto (tgt := 4) hx hb dX7_vetoed_46 (by decide) ?_
          exact ih v11 (x3_4 + 1) _ _ hfu hR hP hD hS ls (lv_sub hl [1, 0, 2, 3] rfl)
  refine LOOP4 (fun x2_4 => (some x2_4)) (fun x2_4 H1 locs hR hP hD hS ls hl => ?_) (fuelN (0 : Int32) ((M 0) (ix (4 : Int32)))) (0 : Int32) (0 : Int32) _ _ (fuelE _ _) hR hP hD hS ls (lv_sub hl [1, 0, 2, 3] rfl)
  try dsimp only at hR
  refine lv_iload_n hx hb dX7_vetoed_49 rfl (lv_at hl 0 rfl) ?_
  exact W.iret (v := x2_4) hx hb hr (fun t ht hW => ⟨⟨x2_4, (), rfl, Option.some.inj hR, trivial⟩, hS.F ht⟩) hS.2.2 dX7_vetoed_50
abbrev rm_X7_isVetoed : Room := { frames := 2, cells := 0, slots := 0, locals := 45 }
abbrev q_X7_isVetoed (dC : Nat → ClassId) (dI : Nat → Nat → Nat) (cI cZ cS : ClassId) (aM : Nat → Nat)  (res : Int32) (A : Nat → Prop) : Array Value → State → Outcome → State → Prop := va_Qi (fun (r : Int32) (u : Unit) => r = res ∧ narrow .boolean (.int r) = .int r) (fun _ _ => True) A
set_option maxHeartbeats 4000000 in
set_option maxRecDepth 100000 in
theorem met_X7_isVetoed (l : Launch) (dC : Nat → ClassId) (dI : Nat → Nat → Nat) (cI cZ cS : ClassId) (aM : Nat → Nat) (M : Pic) (hs : Int64) (sz : Nat) (p1 : Int32) (p2 : Int32) (res : Int32) (hR : f7_isVetoed M p1 p2 = some res) : Met l yX7_isVetoed wsX7_isVetoed rm_X7_isVetoed (va_Pc [.ref (aM 0), .int p1, .int p2] (pW (dC, dI) (tyS cI cZ cS) (wMo cI aM M hs) sz)) (q_X7_isVetoed dC dI cI cZ cS aM res (a0 sz)) 0 0 (a0 sz) := by
  refine Met.ofW (cc := cX7_isVetoed) (maxL := 3) (ret := (some .boolean)) (by decide) rfl ?_
  intro p e s m args below meth c s₁ B hml hv
  obtain ⟨rfl, hsz, hP, hK, hD0, hN⟩ := hv
  have hx := B.exec
  have hb := B.bytes
  have hr := B.returns
  have hts := atoms_spec (ws := wsX7_isVetoed) B.pre
  have hown : s.vm.findClass RX7 = some m.cls := findClass_of_methodNamed B.named
  have hlocks := B.notSynchronized
  subst hsz
  have hD := hD0
  have hA : ∀ q : Nat, s.heap.size ≤ q → a0 s.heap.size q := fun q h => Or.inr h
  have hS : va_S (a0 s.heap.size) s.heap s.heap [] := va_S.rf
  have hP : va_P (dC, dI) vwCl (wMo cI aM M hs) s.heap := hP
  rw [f7_isVetoed] at hR
  have hl := lv_entry ([.ref (aM 0), .int p1, .int p2]) (n := 3) (Nat.le_of_ble_eq_true rfl)
  rw [lg_entry_eq]
  generalize (lg_sl ([.ref (aM 0), .int p1, .int p2]) ++ List.replicate (3 - (lg_sl ([.ref (aM 0), .int p1, .int p2])).length) Slot.unset).toArray = ls at hl ⊢
  have hl : lv_has ls 3 [(0, .ref (aM 0)), (1, .int p1), (2, .int p2)] := hl
  refine lv_aload_n hx hb dX7_isVetoed_0 rfl (lv_at hl 0 rfl) ?_
  refine lv_iload_n hx hb dX7_isVetoed_1 rfl (lv_at hl 1 rfl) ?_
  obtain ⟨r1, hc2, hR⟩ := ob1_e hR
  refine va_calli (va_runV (As := [.int p1]) (rest := []) ⟨hx, hb, hml, hown, hts⟩ (met_X7_vetoed l dC dI cI cZ cS aM M hs s.heap.size p1 r1 hc2) (cwV 1 hts gX7_isVetoed_X7_vetoed rfl rfl rfl (by decide +kernel) ⟨Nat.le_of_ble_eq_true rfl, Nat.le_of_ble_eq_true rfl⟩) (pV (wc := wMo cI aM M hs) (ci := 7) (q0 := 0) hK hP hD hN [0, 1, 2, 3, 4, 5, 6, 7, 8] rfl (by decide) rfl rfl) rfl rfl hl.1 rfl (lv_room (Nat.le_of_ble_eq_true rfl)) dX7_isVetoed_2 ⟨Nat.zero_le _, Nat.zero_le _⟩) hS (fun q _ h => a0_in hS hA q h) (a0_in hS hA) (fun r1 u t H1 locs ht hvm hw hB hz1 hk1 hS => ?_)
  cases hw
  have hP := rdk hP hk1
  refine lv_aload_n hx hb dX7_isVetoed_5 rfl (lv_at hl 0 rfl) ?_
  refine lv_iload_n hx hb dX7_isVetoed_6 rfl (lv_at hl 2 rfl) ?_
  refine lv_iconst (v := (2 : Int32)) hx hb dX7_isVetoed_7 (by decide) ?_
  obtain ⟨r3, hc4, hR⟩ := ob1_e hR
  refine va_calli (va_runV (As := [.int p2, .int (2 : Int32)]) (rest := [.int r1]) ⟨hx, hb, hml, hown, hts⟩ (met_X7_of l dC dI cI cZ cS aM M hs H1.size p2 (2 : Int32) r3 hc4) (cwV 2 hts gX7_isVetoed_X7_of rfl rfl rfl (by decide +kernel) ⟨Nat.le_of_ble_eq_true rfl, Nat.le_of_ble_eq_true rfl⟩) (pV (wc := wMo cI aM M hs) (ci := 7) (q0 := 0) hK hP hD hN [0, 1, 2, 3, 4, 5, 6, 7, 8] rfl (by decide) rfl rfl) rfl rfl hl.1 rfl (lv_room (Nat.le_of_ble_eq_true rfl)) dX7_isVetoed_8 ⟨Nat.zero_le _, Nat.zero_le _⟩) hS (fun q _ h => a0_in hS hA q h) (a0_in hS hA) (fun r3 u t H2 locs ht hvm hw hB hz1 hk1 hS => ?_)
  cases hw
  have hP := rdk hP hk1
  refine va_calli (va_runS (As := [.int r1, .int r3]) (rest := []) ⟨hx, hb, hml, hown, hts⟩ (met_X7_has l dC dI cI cZ cS H2.size r1 r3) (va_cwS 2 hts gX7_isVetoed_X7_has rfl rfl rfl (by decide +kernel) ⟨Nat.le_of_ble_eq_true rfl, Nat.le_of_ble_eq_true rfl⟩) (pS (wc := []) hK hP hD hN [] rfl (by decide)) rfl rfl hl.1 rfl (lv_room (Nat.le_of_ble_eq_true rfl)) dX7_isVetoed_11 ⟨Nat.zero_le _, Nat.zero_le _⟩) hS (fun q _ h => a0_in hS hA q h) (a0_in hS hA) (fun r5 u t H3 locs ht hvm hw hB hz1 hk1 hS => ?_)
  obtain ⟨hw, nb6⟩ := hw
  subst hw
  have hP := rdk hP hk1
  exact W.zret (v := (f7_has r1 r3)) (ty := .boolean) hx hb hr nb6 (fun t ht hW => ⟨⟨(f7_has r1 r3), (), rfl, ⟨Option.some.inj hR, nb6⟩, trivial⟩, hS.F ht⟩) hS.2.2 dX7_isVetoed_14
abbrev rm_X7_someVetoed : Room := { frames := 3, cells := 0, slots := 0, locals := 67 }
abbrev q_X7_someVetoed (dC : Nat → ClassId) (dI : Nat → Nat → Nat) (cI cZ cS : ClassId) (aM : Nat → Nat)  (res : Int32) (A : Nat → Prop) : Array Value → State → Outcome → State → Prop := va_Qi (fun (r : Int32) (u : Unit) => r = res ∧ narrow .boolean (.int r) = .int r) (fun _ _ => True) A
set_option maxHeartbeats 4000000 in
set_option maxRecDepth 100000 in
theorem met_X7_someVetoed (l : Launch) (dC : Nat → ClassId) (dI : Nat → Nat → Nat) (cI cZ cS : ClassId) (aM : Nat → Nat) (M : Pic) (hs : Int64) (sz : Nat)  (res : Int32) (hR : f7_someVetoed M = some res) : Met l yX7_someVetoed wsX7_someVetoed rm_X7_someVetoed (va_Pc [.ref (aM 0)] (pW (dC, dI) (tyS cI cZ cS) (wMo cI aM M hs) sz)) (q_X7_someVetoed dC dI cI cZ cS aM res (a0 sz)) 0 0 (a0 sz) := by
  refine Met.ofW (cc := cX7_someVetoed) (maxL := 3) (ret := (some .boolean)) (by decide) rfl ?_
  intro p e s m args below meth c s₁ B hml hv
  obtain ⟨rfl, hsz, hP, hK, hD0, hN⟩ := hv
  have hx := B.exec
  have hb := B.bytes
  have hr := B.returns
  have hts := atoms_spec (ws := wsX7_someVetoed) B.pre
  have hown : s.vm.findClass RX7 = some m.cls := findClass_of_methodNamed B.named
  have hlocks := B.notSynchronized
  subst hsz
  have hD := hD0
  have hA : ∀ q : Nat, s.heap.size ≤ q → a0 s.heap.size q := fun q h => Or.inr h
  have hS : va_S (a0 s.heap.size) s.heap s.heap [] := va_S.rf
  have hP : va_P (dC, dI) vwCl (wMo cI aM M hs) s.heap := hP
  rw [f7_someVetoed] at hR
  have hin7 : ∀ w ∈ wsX70, w ∈ wsX7_someVetoed := by decide +kernel
  have hl := lv_entry ([.ref (aM 0)]) (n := 3) (Nat.le_of_ble_eq_true rfl)
  rw [lg_entry_eq]
  generalize (lg_sl ([.ref (aM 0)]) ++ List.replicate (3 - (lg_sl ([.ref (aM 0)])).length) Slot.unset).toArray = ls at hl ⊢
  have hl : lv_has ls 3 [(0, .ref (aM 0))] := hl
  refine lv_iconst (v := (0 : Int32)) hx hb dX7_someVetoed_0 (by decide) ?_
  refine lv_istore_n (lv' := [(1, .int (0 : Int32)), (0, .ref (aM 0))]) hx hb dX7_someVetoed_1 rfl hl (by decide) rfl (fun ls hl => ?_)
  refine lv_iconst (v := (0 : Int32)) hx hb dX7_someVetoed_2 (by decide) ?_
  refine lv_istore_n (lv' := [(2, .int (0 : Int32)), (1, .int (0 : Int32)), (0, .ref (aM 0))]) hx hb dX7_someVetoed_3 rfl hl (by decide) rfl (fun ls hl => ?_)
  have LOOP4 : ∀ (k : Int32 → (Option (Int32))), (∀ (x1_4 : Int32) (H1 : Heap) (locs : List Loc), narrow .boolean (.int x1_4) = .int x1_4 → k x1_4 = some res → va_P (dC, dI) vwCl (wMo cI aM M hs) H1 → va_D (fun _ => True) (wMo cI aM M hs) → va_S (a0 s.heap.size) s.heap H1 locs → ∀ (ls : Array Slot), lv_has ls 3 [(1, .int x1_4)] → W p l e (headSpec wsX7_someVetoed rm_X7_someVetoed).room s m ([.ref (aM 0)] : List Value).toArray below meth c H1 locs 0 0 (MQ below (q_X7_someVetoed dC dI cI cZ cS aM res (a0 s.heap.size)) ([.ref (aM 0)] : List Value).toArray s 0 0 (a0 s.heap.size)) (F0 m 58 ls [])) → ∀ (nf : Nat) (x1_4 : Int32) (x2_4 : Int32) (H1 : Heap) (locs : List Loc), ((84 : Int32)).toInt - (x2_4).toInt ≤ (nf : Int) → narrow .boolean (.int x1_4) = .int x1_4 → f7_someVetoed_L4 M nf x1_4 x2_4 k = some res → va_P (dC, dI) vwCl (wMo cI aM M hs) H1 → va_D (fun _ => True) (wMo cI aM M hs) → va_S (a0 s.heap.size) s.heap H1 locs → ∀ (ls : Array Slot), lv_has ls 3 [(1, .int x1_4), (2, .int x2_4), (0, .ref (aM 0))] → W p l e (headSpec wsX7_someVetoed rm_X7_someVetoed).room s m ([.ref (aM 0)] : List Value).toArray below meth c H1 locs 0 0 (MQ below (q_X7_someVetoed dC dI cI cZ cS aM res (a0 s.heap.size)) ([.ref (aM 0)] : List Value).toArray s 0 0 (a0 s.heap.size)) (F0 m 4 ls []) := by
    intro k hk nf
    induction nf with
    | zero =>
      intro x1_4 x2_4 H1 locs hfu hnb1 hR hP hD hS ls hl
      rw [f7_someVetoed_L4] at hR
      refine lv_iload_n hx hb dX7_someVetoed_4 rfl (lv_at hl 1 rfl) ?_
      refine lv_bipush (v := (84 : Int32)) hx hb dX7_someVetoed_5 (by decide) ?_
      refine lv_icmp_ge (tgt := 58) hx hb dX7_someVetoed_7 (by decide) (fun c_1 => ?_) (fun c_1 => ?_)
      · skip
        exact hk x1_4 _ _ hnb1 hR hP hD hS ls (lv_sub hl [0] rfl)
      · exact (fuel0 hfu c_1).elim
    | succ nf ih =>
      intro x1_4 x2_4 H1 locs hfu hnb1 hR hP hD hS ls hl
      rw [f7_someVetoed_L4] at hR
      refine lv_iload_n hx hb dX7_someVetoed_4 rfl (lv_at hl 1 rfl) ?_
      refine lv_bipush (v := (84 : Int32)) hx hb dX7_someVetoed_5 (by decide) ?_
      refine lv_icmp_ge (tgt := 58) hx hb dX7_someVetoed_7 (by decide) (fun c_2 => ?_) (fun c_2 => ?_)
      · rw [if_pos c_2] at hR
        exact hk x1_4 _ _ hnb1 hR hP hD hS ls (lv_sub hl [0] rfl)
      · rw [if_neg c_2] at hR
        have hfu := fuelS hfu c_2
        refine lv_iload_n hx hb dX7_someVetoed_10 rfl (lv_at hl 0 rfl) ?_
        refine lv_if_ne (tgt := 46) hx hb dX7_someVetoed_11 (by decide) (fun c_3 => ?_) (fun c_3 => ?_)
        · rw [if_neg c_3] at hR
          refine lv_iconst (v := (1 : Int32)) hx hb dX7_someVetoed_46 (by decide) ?_
          refine lv_goto (tgt := 51) hx hb dX7_someVetoed_47 (by decide) ?_
          refine lv_istore_n (lv' := [(1, .int (1 : Int32)), (2, .int x2_4), (0, .ref (aM 0))]) hx hb dX7_someVetoed_51 rfl hl (by decide) rfl (fun ls hl => ?_)
          refine lv_iinc (v := (x2_4 + 1)) (lv' := [(2, .int (x2_4 + 1)), (1, .int (1 : Int32)), (0, .ref (aM 0))]) hx hb dX7_someVetoed_52 hl (k := 1) rfl rfl (by decide) rfl (fun ls hl => ?_)
          refine lv_goto (tgt := 4) hx hb dX7_someVetoed_55 (by decide) ?_
          exact ih (1 : Int32) (x2_4 + 1) _ _ hfu rfl hR hP hD hS ls (lv_sub hl [1, 0, 2] rfl)
        · rw [if_pos c_3] at hR
          refine lv_aload_n hx hb dX7_someVetoed_14 rfl (lv_at hl 2 rfl) ?_
          refine va_get (D := (dC, dI)) (ci := 7) (v := .ref (aM 1)) (C := RX7) (T := TX7) (N := 15) hx hb hts hin7 hown hK hP 0 rfl rfl 0 (by decide) (hw_ hts 1 rfl) (fun _ h9 => h9) rfl dX7_someVetoed_15 ?_
          refine lv_bipush (v := (89 : Int32)) hx hb dX7_someVetoed_18 (by decide) ?_
          refine lv_iload_n hx hb dX7_someVetoed_20 rfl (lv_at hl 1 rfl) ?_
          refine lv_iadd hx hb dX7_someVetoed_21 ?_
          obtain ⟨hix4, hR⟩ := ck_some hR
          refine va_iald (f := (M 0)) hx hb hK hP 1 0 rfl rfl hix4 dX7_someVetoed_22 ?_
          refine lv_iconst (v := (-1 : Int32)) hx hb dX7_someVetoed_23 (by decide) ?_
          refine lv_icmp_eq (tgt := 50) hx hb dX7_someVetoed_24 (by decide) (fun c_5 => ?_) (fun c_5 => ?_)
          · rw [if_pos c_5] at hR
            refine lv_iconst (v := (0 : Int32)) hx hb dX7_someVetoed_50 (by decide) ?_
            refine lv_istore_n (lv' := [(1, .int (0 : Int32)), (2, .int x2_4), (0, .ref (aM 0))]) hx hb dX7_someVetoed_51 rfl hl (by decide) rfl (fun ls hl => ?_)
            refine lv_iinc (v := (x2_4 + 1)) (lv' := [(2, .int (x2_4 + 1)), (1, .int (0 : Int32)), (0, .ref (aM 0))]) hx hb dX7_someVetoed_52 hl (k := 1) rfl rfl (by decide) rfl (fun ls hl => ?_)
            refine lv_goto (tgt := 4) hx hb dX7_someVetoed_55 (by decide) ?_
            exact ih (0 : Int32) (x2_4 + 1) _ _ hfu rfl hR hP hD hS ls (lv_sub hl [1, 0, 2] rfl)
          · rw [if_neg c_5] at hR
            refine lv_aload_n hx hb dX7_someVetoed_27 rfl (lv_at hl 2 rfl) ?_
            refine lv_iload_n hx hb dX7_someVetoed_28 rfl (lv_at hl 1 rfl) ?_
            refine lv_iconst (v := (3 : Int32)) hx hb dX7_someVetoed_29 (by decide) ?_
            refine lv_idiv hx hb dX7_someVetoed_30 (by decide) ?_
            refine lv_aload_n hx hb dX7_someVetoed_31 rfl (lv_at hl 2 rfl) ?_
            refine va_get (D := (dC, dI)) (ci := 7) (v := .ref (aM 1)) (C := RX7) (T := TX7) (N := 15) hx hb hts hin7 hown hK hP 0 rfl rfl 0 (by decide) (hw_ hts 1 rfl) (fun _ h9 => h9) rfl dX7_someVetoed_32 ?_
            refine lv_bipush (v := (89 : Int32)) hx hb dX7_someVetoed_35 (by decide) ?_
            refine lv_iload_n hx hb dX7_someVetoed_37 rfl (lv_at hl 1 rfl) ?_
            refine lv_iadd hx hb dX7_someVetoed_38 ?_
            obtain ⟨hix6, hR⟩ := ck_some hR
            refine va_iald (f := (M 0)) hx hb hK hP 1 0 rfl rfl hix6 dX7_someVetoed_39 ?_
            obtain ⟨r7, hc8, hR⟩ := ob1_e hR
            refine va_calli (va_runV (As := [.int (x2_4 / (3 : Int32)), .int ((M 0) (ix ((89 : Int32) + x2_4)))]) (rest := []) ⟨hx, hb, hml, hown, hts⟩ (met_X7_isVetoed l dC dI cI cZ cS aM M hs H1.size (x2_4 / (3 : Int32)) ((M 0) (ix ((89 : Int32) + x2_4))) r7 hc8) (cwV 2 hts gX7_someVetoed_X7_isVetoed rfl rfl rfl (by decide +kernel) ⟨Nat.le_of_ble_eq_true rfl, Nat.le_of_ble_eq_true rfl⟩) (pV (wc := wMo cI aM M hs) (ci := 7) (q0 := 0) hK hP hD hN [0, 1, 2, 3, 4, 5, 6, 7, 8] rfl (by decide) rfl rfl) rfl rfl hl.1 rfl (lv_room (Nat.le_of_ble_eq_true rfl)) dX7_someVetoed_40 ⟨Nat.zero_le _, Nat.zero_le _⟩) hS (fun q _ h => a0_in hS hA q h) (a0_in hS hA) (fun r7 u t H2 locs ht hvm hw hB hz1 hk1 hS => ?_)
            obtain ⟨hw, nb9⟩ := hw
            cases hw
            have hP := rdk hP hk1
            refine lv_if_eq (tgt := 50) hx hb dX7_someVetoed_43 (by decide) (fun c_10 => ?_) (fun c_10 => ?_)
            · rw [if_pos c_10] at hR
              refine lv_iconst (v := (0 : Int32)) hx hb dX7_someVetoed_50 (by decide) ?_
              refine lv_istore_n (lv' := [(1, .int (0 : Int32)), (2, .int x2_4), (0, .ref (aM 0))]) hx hb dX7_someVetoed_51 rfl hl (by decide) rfl (fun ls hl => ?_)
              refine lv_iinc (v := (x2_4 + 1)) (lv' := [(2, .int (x2_4 + 1)), (1, .int (0 : Int32)), (0, .ref (aM 0))]) hx hb dX7_someVetoed_52 hl (k := 1) rfl rfl (by decide) rfl (fun ls hl => ?_)
              refine lv_goto (tgt := 4) hx hb dX7_someVetoed_55 (by decide) ?_
              exact ih (0 : Int32) (x2_4 + 1) _ _ hfu rfl hR hP hD hS ls (lv_sub hl [1, 0, 2] rfl)
            · rw [if_neg c_10] at hR
              refine lv_iconst (v := (1 : Int32)) hx hb dX7_someVetoed_46 (by decide) ?_
              refine lv_goto (tgt := 51) hx hb dX7_someVetoed_47 (by decide) ?_
              refine lv_istore_n (lv' := [(1, .int (1 : Int32)), (2, .int x2_4), (0, .ref (aM 0))]) hx hb dX7_someVetoed_51 rfl hl (by decide) rfl (fun ls hl => ?_)
              refine lv_iinc (v := (x2_4 + 1)) (lv' := [(2, .int (x2_4 + 1)), (1, .int (1 : Int32)), (0, .ref (aM 0))]) hx hb dX7_someVetoed_52 hl (k := 1) rfl rfl (by decide) rfl (fun ls hl => ?_)
              refine lv_goto (tgt := 4) hx hb dX7_someVetoed_55 (by decide) ?_
              exact ih (1 : Int32) (x2_4 + 1) _ _ hfu rfl hR hP hD hS ls (lv_sub hl [1, 0, 2] rfl)
  refine LOOP4 (fun x1_4 => (some x1_4)) (fun x1_4 H1 locs hnb1 hR hP hD hS ls hl => ?_) 84 (0 : Int32) (0 : Int32) _ _ (by decide) rfl hR hP hD hS ls (lv_sub hl [1, 0, 2] rfl)
  try dsimp only at hR
  refine lv_iload_n hx hb dX7_someVetoed_58 rfl (lv_at hl 0 rfl) ?_
  exact W.zret (v := x1_4) (ty := .boolean) hx hb hr hnb1 (fun t ht hW => ⟨⟨x1_4, (), rfl, ⟨Option.some.inj hR, hnb1⟩, trivial⟩, hS.F ht⟩) hS.2.2 dX7_someVetoed_59
abbrev rm_X7_costOf : Room := { frames := 1, cells := 0, slots := 0, locals := 22 }
abbrev q_X7_costOf (dC : Nat → ClassId) (dI : Nat → Nat → Nat) (cI cZ cS : ClassId) (aM : Nat → Nat)  (res : Int32) (A : Nat → Prop) : Array Value → State → Outcome → State → Prop := va_Qi (fun (r : Int32) (u : Unit) => r = res) (fun _ _ => True) A
set_option maxHeartbeats 4000000 in
set_option maxRecDepth 100000 in
theorem met_X7_costOf (l : Launch) (dC : Nat → ClassId) (dI : Nat → Nat → Nat) (cI cZ cS : ClassId) (aM : Nat → Nat) (M : Pic) (hs : Int64) (sz : Nat) (p1 : Int32) (res : Int32) (hR : f7_costOf M p1 = some res) : Met l yX7_costOf wsX7_costOf rm_X7_costOf (va_Pc [.ref (aM 0), .int p1] (pW (dC, dI) (tyS cI cZ cS) (wMo cI aM M hs) sz)) (q_X7_costOf dC dI cI cZ cS aM res (a0 sz)) 0 0 (a0 sz) := by
  refine Met.ofW (cc := cX7_costOf) (maxL := 4) (ret := (some .int)) (by decide) rfl ?_
  intro p e s m args below meth c s₁ B hml hv
  obtain ⟨rfl, hsz, hP, hK, hD0, hN⟩ := hv
  have hx := B.exec
  have hb := B.bytes
  have hr := B.returns
  have hts := atoms_spec (ws := wsX7_costOf) B.pre
  have hown : s.vm.findClass RX7 = some m.cls := findClass_of_methodNamed B.named
  have hlocks := B.notSynchronized
  subst hsz
  have hD := hD0
  have hA : ∀ q : Nat, s.heap.size ≤ q → a0 s.heap.size q := fun q h => Or.inr h
  have hS : va_S (a0 s.heap.size) s.heap s.heap [] := va_S.rf
  have hP : va_P (dC, dI) vwCl (wMo cI aM M hs) s.heap := hP
  rw [f7_costOf] at hR
  have hl := lv_entry ([.ref (aM 0), .int p1]) (n := 4) (Nat.le_of_ble_eq_true rfl)
  rw [lg_entry_eq]
  generalize (lg_sl ([.ref (aM 0), .int p1]) ++ List.replicate (4 - (lg_sl ([.ref (aM 0), .int p1])).length) Slot.unset).toArray = ls at hl ⊢
  have hl : lv_has ls 4 [(0, .ref (aM 0)), (1, .int p1)] := hl
  refine lv_iconst (v := (0 : Int32)) hx hb dX7_costOf_0 (by decide) ?_
  refine lv_istore_n (lv' := [(2, .int (0 : Int32)), (0, .ref (aM 0)), (1, .int p1)]) hx hb dX7_costOf_1 rfl hl (by decide) rfl (fun ls hl => ?_)
  refine lv_iconst (v := (0 : Int32)) hx hb dX7_costOf_2 (by decide) ?_
  refine lv_istore_n (lv' := [(3, .int (0 : Int32)), (2, .int (0 : Int32)), (0, .ref (aM 0)), (1, .int p1)]) hx hb dX7_costOf_3 rfl hl (by decide) rfl (fun ls hl => ?_)
  have LOOP4 : ∀ (k : Int32 → (Option (Int32))), (∀ (x2_4 : Int32) (H1 : Heap) (locs : List Loc), k x2_4 = some res → va_P (dC, dI) vwCl (wMo cI aM M hs) H1 → va_D (fun _ => True) (wMo cI aM M hs) → va_S (a0 s.heap.size) s.heap H1 locs → ∀ (ls : Array Slot), lv_has ls 4 [(2, .int x2_4)] → W p l e (headSpec wsX7_costOf rm_X7_costOf).room s m ([.ref (aM 0), .int p1] : List Value).toArray below meth c H1 locs 0 0 (MQ below (q_X7_costOf dC dI cI cZ cS aM res (a0 s.heap.size)) ([.ref (aM 0), .int p1] : List Value).toArray s 0 0 (a0 s.heap.size)) (F0 m 43 ls [])) → ∀ (nf : Nat) (x2_4 : Int32) (x3_4 : Int32) (H1 : Heap) (locs : List Loc), ((3 : Int32)).toInt - (x3_4).toInt ≤ (nf : Int) → f7_costOf_L4 M p1 nf x2_4 x3_4 k = some res → va_P (dC, dI) vwCl (wMo cI aM M hs) H1 → va_D (fun _ => True) (wMo cI aM M hs) → va_S (a0 s.heap.size) s.heap H1 locs → ∀ (ls : Array Slot), lv_has ls 4 [(2, .int x2_4), (3, .int x3_4), (0, .ref (aM 0)), (1, .int p1)] → W p l e (headSpec wsX7_costOf rm_X7_costOf).room s m ([.ref (aM 0), .int p1] : List Value).toArray below meth c H1 locs 0 0 (MQ below (q_X7_costOf dC dI cI cZ cS aM res (a0 s.heap.size)) ([.ref (aM 0), .int p1] : List Value).toArray s 0 0 (a0 s.heap.size)) (F0 m 4 ls []) := by
    intro k hk nf
    induction nf with
    | zero =>
      intro x2_4 x3_4 H1 locs hfu hR hP hD hS ls hl
      rw [f7_costOf_L4] at hR
      refine lv_iload_n hx hb dX7_costOf_4 rfl (lv_at hl 1 rfl) ?_
      refine lv_iconst (v := (3 : Int32)) hx hb dX7_costOf_5 (by decide) ?_
      refine lv_icmp_ge (tgt := 43) hx hb dX7_costOf_6 (by decide) (fun c_1 => ?_) (fun c_1 => ?_)
      · skip
        exact hk x2_4 _ _  hR hP hD hS ls (lv_sub hl [0] rfl)
      · exact (fuel0 hfu c_1).elim
    | succ nf ih =>
      intro x2_4 x3_4 H1 locs hfu hR hP hD hS ls hl
      rw [f7_costOf_L4] at hR
      refine lv_iload_n hx hb dX7_costOf_4 rfl (lv_at hl 1 rfl) ?_
      refine lv_iconst (v := (3 : Int32)) hx hb dX7_costOf_5 (by decide) ?_
      refine lv_icmp_ge (tgt := 43) hx hb dX7_costOf_6 (by decide) (fun c_2 => ?_) (fun c_2 => ?_)
      · rw [if_pos c_2] at hR
        exact hk x2_4 _ _  hR hP hD hS ls (lv_sub hl [0] rfl)
      · rw [if_neg c_2] at hR
        have hfu := fuelS hfu c_2
        refine lv_iload_n hx hb dX7_costOf_9 rfl (lv_at hl 0 rfl) ?_
        refine lv_aload_n hx hb dX7_costOf_10 rfl (lv_at hl 2 rfl) ?_
        refine lv_iload_n hx hb dX7_costOf_11 rfl (lv_at hl 3 rfl) ?_
        refine lv_iload_n hx hb dX7_costOf_12 rfl (lv_at hl 1 rfl) ?_
        obtain ⟨r3, hc4, hR⟩ := ob1_e hR
        refine va_calli (va_runV (As := [.int p1, .int x3_4]) (rest := [.int x2_4]) ⟨hx, hb, hml, hown, hts⟩ (met_X7_at l dC dI cI cZ cS aM M hs H1.size p1 x3_4 r3 hc4) (cwV 2 hts gX7_costOf_X7_at rfl rfl rfl (by decide +kernel) ⟨Nat.le_of_ble_eq_true rfl, Nat.le_of_ble_eq_true rfl⟩) (pV (wc := wMo cI aM M hs) (ci := 7) (q0 := 0) hK hP hD hN [0, 1, 2, 3, 4, 5, 6, 7, 8] rfl (by decide) rfl rfl) rfl rfl hl.1 rfl (lv_room (Nat.le_of_ble_eq_true rfl)) dX7_costOf_13 ⟨Nat.zero_le _, Nat.zero_le _⟩) hS (fun q _ h => a0_in hS hA q h) (a0_in hS hA) (fun r3 u t H2 locs ht hvm hw hB hz1 hk1 hS => ?_)
        cases hw
        have hP := rdk hP hk1
        refine lv_iconst (v := (-1 : Int32)) hx hb dX7_costOf_16 (by decide) ?_
        refine lv_icmp_ne (tgt := 24) hx hb dX7_costOf_17 (by decide) (fun c_5 => ?_) (fun c_5 => ?_)
        · rw [if_neg c_5] at hR
          refine lv_aload_n hx hb dX7_costOf_24 rfl (lv_at hl 2 rfl) ?_
          refine lv_aload_n hx hb dX7_costOf_25 rfl (lv_at hl 2 rfl) ?_
          refine lv_iload_n hx hb dX7_costOf_26 rfl (lv_at hl 3 rfl) ?_
          refine lv_iload_n hx hb dX7_costOf_27 rfl (lv_at hl 1 rfl) ?_
          obtain ⟨r6, hc7, hR⟩ := ob1_e hR
          refine va_calli (va_runV (As := [.int p1, .int x3_4]) (rest := [.ref (aM 0), .int x2_4]) ⟨hx, hb, hml, hown, hts⟩ (met_X7_at l dC dI cI cZ cS aM M hs H2.size p1 x3_4 r6 hc7) (cwV 2 hts gX7_costOf_X7_at rfl rfl rfl (by decide +kernel) ⟨Nat.le_of_ble_eq_true rfl, Nat.le_of_ble_eq_true rfl⟩) (pV (wc := wMo cI aM M hs) (ci := 7) (q0 := 0) hK hP hD hN [0, 1, 2, 3, 4, 5, 6, 7, 8] rfl (by decide) rfl rfl) rfl rfl hl.1 rfl (lv_room (Nat.le_of_ble_eq_true rfl)) dX7_costOf_28 ⟨Nat.zero_le _, Nat.zero_le _⟩) hS (fun q _ h => a0_in hS hA q h) (a0_in hS hA) (fun r6 u t H3 locs ht hvm hw hB hz1 hk1 hS => ?_)
          cases hw
          have hP := rdk hP hk1
          refine lv_iconst (v := (1 : Int32)) hx hb dX7_costOf_31 (by decide) ?_
          obtain ⟨r8, hc9, hR⟩ := ob1_e hR
          refine va_calli (va_runV (As := [.int r6, .int (1 : Int32)]) (rest := [.int x2_4]) ⟨hx, hb, hml, hown, hts⟩ (met_X7_of l dC dI cI cZ cS aM M hs H3.size r6 (1 : Int32) r8 hc9) (cwV 2 hts gX7_costOf_X7_of rfl rfl rfl (by decide +kernel) ⟨Nat.le_of_ble_eq_true rfl, Nat.le_of_ble_eq_true rfl⟩) (pV (wc := wMo cI aM M hs) (ci := 7) (q0 := 0) hK hP hD hN [0, 1, 2, 3, 4, 5, 6, 7, 8] rfl (by decide) rfl rfl) rfl rfl hl.1 rfl (lv_room (Nat.le_of_ble_eq_true rfl)) dX7_costOf_32 ⟨Nat.zero_le _, Nat.zero_le _⟩) hS (fun q _ h => a0_in hS hA q h) (a0_in hS hA) (fun r8 u t H4 locs ht hvm hw hB hz1 hk1 hS => ?_)
          cases hw
          have hP := rdk hP hk1
          refine lv_iadd hx hb dX7_costOf_35 ?_
          refine lv_topi (fun v10 hv10 => ?_)
          have hR := bd_n hv10 hR
          refine lv_istore_n (lv' := [(2, .int v10), (3, .int x3_4), (0, .ref (aM 0)), (1, .int p1)]) hx hb dX7_costOf_36 rfl hl (by decide) rfl (fun ls hl => ?_)
          refine lv_iinc (v := (x3_4 + 1)) (lv' := [(3, .int (x3_4 + 1)), (2, .int v10), (0, .ref (aM 0)), (1, .int p1)]) hx hb dX7_costOf_37 hl (k := 1) rfl rfl (by decide) rfl (fun ls hl => ?_)
          refine lv_goto (tgt := 4) hx hb dX7_costOf_40 (by decide) ?_
          exact ih v10 (x3_4 + 1) _ _ hfu hR hP hD hS ls (lv_sub hl [1, 0, 2, 3] rfl)
        · rw [if_pos c_5] at hR
          refine lv_iconst (v := (0 : Int32)) hx hb dX7_costOf_20 (by decide) ?_
          refine lv_goto (tgt := 35) hx hb dX7_costOf_21 (by decide) ?_
          refine lv_iadd hx hb dX7_costOf_35 ?_
          refine lv_topi (fun v11 hv11 => ?_)
          have hR := bd_n hv11 hR
          refine lv_istore_n (lv' := [(2, .int v11), (3, .int x3_4), (0, .ref (aM 0)), (1, .int p1)]) hx hb dX7_costOf_36 rfl hl (by decide) rfl (fun ls hl => ?_)
          refine lv_iinc (v := (x3_4 + 1)) (lv' := [(3, .int (x3_4 + 1)), (2, .int v11), (0, .ref (aM 0)), (1, .int p1)]) hx hb dX7_costOf_37 hl (k := 1) rfl rfl (by decide) rfl (fun ls hl => ?_)
          refine lv_goto (tgt := 4) hx hb dX7_costOf_40 (by decide) ?_
          exact ih v11 (x3_4 + 1) _ _ hfu hR hP hD hS ls (lv_sub hl [1, 0, 2, 3] rfl)
  refine LOOP4 (fun x2_4 => (some x2_4)) (fun x2_4 H1 locs hR hP hD hS ls hl => ?_) 3 (0 : Int32) (0 : Int32) _ _ (by decide) hR hP hD hS ls (lv_sub hl [1, 0, 2, 3] rfl)
  try dsimp only at hR
  refine lv_iload_n hx hb dX7_costOf_43 rfl (lv_at hl 0 rfl) ?_
  exact W.iret (v := x2_4) hx hb hr (fun t ht hW => ⟨⟨x2_4, (), rfl, Option.some.inj hR, trivial⟩, hS.F ht⟩) hS.2.2 dX7_costOf_44
abbrev rm_X7_weekCost : Room := { frames := 2, cells := 0, slots := 0, locals := 45 }
abbrev q_X7_weekCost (dC : Nat → ClassId) (dI : Nat → Nat → Nat) (cI cZ cS : ClassId) (aM : Nat → Nat)  (res : Int32) (A : Nat → Prop) : Array Value → State → Outcome → State → Prop := va_Qi (fun (r : Int32) (u : Unit) => r = res) (fun _ _ => True) A
set_option maxHeartbeats 4000000 in
set_option maxRecDepth 100000 in
theorem met_X7_weekCost (l : Launch) (dC : Nat → ClassId) (dI : Nat → Nat → Nat) (cI cZ cS : ClassId) (aM : Nat → Nat) (M : Pic) (hs : Int64) (sz : Nat) (p1 : Int32) (res : Int32) (hR : f7_weekCost M p1 = some res) : Met l yX7_weekCost wsX7_weekCost rm_X7_weekCost (va_Pc [.ref (aM 0), .int p1] (pW (dC, dI) (tyS cI cZ cS) (wMo cI aM M hs) sz)) (q_X7_weekCost dC dI cI cZ cS aM res (a0 sz)) 0 0 (a0 sz) := by
  refine Met.ofW (cc := cX7_weekCost) (maxL := 4) (ret := (some .int)) (by decide) rfl ?_
  intro p e s m args below meth c s₁ B hml hv
  obtain ⟨rfl, hsz, hP, hK, hD0, hN⟩ := hv
  have hx := B.exec
  have hb := B.bytes
  have hr := B.returns
  have hts := atoms_spec (ws := wsX7_weekCost) B.pre
  have hown : s.vm.findClass RX7 = some m.cls := findClass_of_methodNamed B.named
  have hlocks := B.notSynchronized
  subst hsz
  have hD := hD0
  have hA : ∀ q : Nat, s.heap.size ≤ q → a0 s.heap.size q := fun q h => Or.inr h
  have hS : va_S (a0 s.heap.size) s.heap s.heap [] := va_S.rf
  have hP : va_P (dC, dI) vwCl (wMo cI aM M hs) s.heap := hP
  rw [f7_weekCost] at hR
  have hl := lv_entry ([.ref (aM 0), .int p1]) (n := 4) (Nat.le_of_ble_eq_true rfl)
  rw [lg_entry_eq]
  generalize (lg_sl ([.ref (aM 0), .int p1]) ++ List.replicate (4 - (lg_sl ([.ref (aM 0), .int p1])).length) Slot.unset).toArray = ls at hl ⊢
  have hl : lv_has ls 4 [(0, .ref (aM 0)), (1, .int p1)] := hl
  refine lv_iconst (v := (0 : Int32)) hx hb dX7_weekCost_0 (by decide) ?_
  refine lv_istore_n (lv' := [(2, .int (0 : Int32)), (0, .ref (aM 0)), (1, .int p1)]) hx hb dX7_weekCost_1 rfl hl (by decide) rfl (fun ls hl => ?_)
  refine lv_bipush (v := (7 : Int32)) hx hb dX7_weekCost_2 (by decide) ?_
  refine lv_iload_n hx hb dX7_weekCost_4 rfl (lv_at hl 2 rfl) ?_
  refine lv_imul hx hb dX7_weekCost_5 ?_
  refine lv_topi (fun v1 hv1 => ?_)
  have hR := bd_n hv1 hR
  refine lv_istore_n (lv' := [(3, .int v1), (2, .int (0 : Int32)), (0, .ref (aM 0)), (1, .int p1)]) hx hb dX7_weekCost_6 rfl hl (by decide) rfl (fun ls hl => ?_)
  have LOOP7 : ∀ (k : Int32 → (Option (Int32))), (∀ (x2_7 : Int32) (H1 : Heap) (locs : List Loc), k x2_7 = some res → va_P (dC, dI) vwCl (wMo cI aM M hs) H1 → va_D (fun _ => True) (wMo cI aM M hs) → va_S (a0 s.heap.size) s.heap H1 locs → ∀ (ls : Array Slot), lv_has ls 4 [(2, .int x2_7)] → W p l e (headSpec wsX7_weekCost rm_X7_weekCost).room s m ([.ref (aM 0), .int p1] : List Value).toArray below meth c H1 locs 0 0 (MQ below (q_X7_weekCost dC dI cI cZ cS aM res (a0 s.heap.size)) ([.ref (aM 0), .int p1] : List Value).toArray s 0 0 (a0 s.heap.size)) (F0 m 32 ls [])) → ∀ (nf : Nat) (x2_7 : Int32) (x3_7 : Int32) (H1 : Heap) (locs : List Loc), ((((7 : Int32) * p1) + (7 : Int32))).toInt - (x3_7).toInt ≤ (nf : Int) → f7_weekCost_L7 M p1 nf x2_7 x3_7 k = some res → va_P (dC, dI) vwCl (wMo cI aM M hs) H1 → va_D (fun _ => True) (wMo cI aM M hs) → va_S (a0 s.heap.size) s.heap H1 locs → ∀ (ls : Array Slot), lv_has ls 4 [(2, .int x2_7), (3, .int x3_7), (0, .ref (aM 0)), (1, .int p1)] → W p l e (headSpec wsX7_weekCost rm_X7_weekCost).room s m ([.ref (aM 0), .int p1] : List Value).toArray below meth c H1 locs 0 0 (MQ below (q_X7_weekCost dC dI cI cZ cS aM res (a0 s.heap.size)) ([.ref (aM 0), .int p1] : List Value).toArray s 0 0 (a0 s.heap.size)) (F0 m 7 ls []) := by
    intro k hk nf
    induction nf with
    | zero =>
      intro x2_7 x3_7 H1 locs hfu hR hP hD hS ls hl
      rw [f7_weekCost_L7] at hR
      refine lv_iload_n hx hb dX7_weekCost_7 rfl (lv_at hl 1 rfl) ?_
      refine lv_bipush (v := (7 : Int32)) hx hb dX7_weekCost_8 (by decide) ?_
      refine lv_iload_n hx hb dX7_weekCost_10 rfl (lv_at hl 3 rfl) ?_
      refine lv_imul hx hb dX7_weekCost_11 ?_
      refine lv_bipush (v := (7 : Int32)) hx hb dX7_weekCost_12 (by decide) ?_
      refine lv_iadd hx hb dX7_weekCost_14 ?_
      refine lv_icmp_ge (tgt := 32) hx hb dX7_weekCost_15 (by decide) (fun c_2 => ?_) (fun c_2 => ?_)
      · skip
        exact hk x2_7 _ _  hR hP hD hS ls (lv_sub hl [0] rfl)
      · exact (fuel0 hfu c_2).elim
    | succ nf ih =>
      intro x2_7 x3_7 H1 locs hfu hR hP hD hS ls hl
      rw [f7_weekCost_L7] at hR
      refine lv_iload_n hx hb dX7_weekCost_7 rfl (lv_at hl 1 rfl) ?_
      refine lv_bipush (v := (7 : Int32)) hx hb dX7_weekCost_8 (by decide) ?_
      refine lv_iload_n hx hb dX7_weekCost_10 rfl (lv_at hl 3 rfl) ?_
      refine lv_imul hx hb dX7_weekCost_11 ?_
      refine lv_bipush (v := (7 : Int32)) hx hb dX7_weekCost_12 (by decide) ?_
      refine lv_iadd hx hb dX7_weekCost_14 ?_
      refine lv_icmp_ge (tgt := 32) hx hb dX7_weekCost_15 (by decide) (fun c_3 => ?_) (fun c_3 => ?_)
      · rw [if_pos c_3] at hR
        exact hk x2_7 _ _  hR hP hD hS ls (lv_sub hl [0] rfl)
      · rw [if_neg c_3] at hR
        have hfu := fuelS hfu c_3
        refine lv_iload_n hx hb dX7_weekCost_18 rfl (lv_at hl 0 rfl) ?_
        refine lv_aload_n hx hb dX7_weekCost_19 rfl (lv_at hl 2 rfl) ?_
        refine lv_iload_n hx hb dX7_weekCost_20 rfl (lv_at hl 1 rfl) ?_
        obtain ⟨r4, hc5, hR⟩ := ob1_e hR
        refine va_calli (va_runV (As := [.int x3_7]) (rest := [.int x2_7]) ⟨hx, hb, hml, hown, hts⟩ (met_X7_costOf l dC dI cI cZ cS aM M hs H1.size x3_7 r4 hc5) (cwV 1 hts gX7_weekCost_X7_costOf rfl rfl rfl (by decide +kernel) ⟨Nat.le_of_ble_eq_true rfl, Nat.le_of_ble_eq_true rfl⟩) (pV (wc := wMo cI aM M hs) (ci := 7) (q0 := 0) hK hP hD hN [0, 1, 2, 3, 4, 5, 6, 7, 8] rfl (by decide) rfl rfl) rfl rfl hl.1 rfl (lv_room (Nat.le_of_ble_eq_true rfl)) dX7_weekCost_21 ⟨Nat.zero_le _, Nat.zero_le _⟩) hS (fun q _ h => a0_in hS hA q h) (a0_in hS hA) (fun r4 u t H2 locs ht hvm hw hB hz1 hk1 hS => ?_)
        cases hw
        have hP := rdk hP hk1
        refine lv_iadd hx hb dX7_weekCost_24 ?_
        refine lv_topi (fun v6 hv6 => ?_)
        have hR := bd_n hv6 hR
        refine lv_istore_n (lv' := [(2, .int v6), (3, .int x3_7), (0, .ref (aM 0)), (1, .int p1)]) hx hb dX7_weekCost_25 rfl hl (by decide) rfl (fun ls hl => ?_)
        refine lv_iinc (v := (x3_7 + 1)) (lv' := [(3, .int (x3_7 + 1)), (2, .int v6), (0, .ref (aM 0)), (1, .int p1)]) hx hb dX7_weekCost_26 hl (k := 1) rfl rfl (by decide) rfl (fun ls hl => ?_)
        refine lv_goto (tgt := 7) hx hb dX7_weekCost_29 (by decide) ?_
        exact ih v6 (x3_7 + 1) _ _ hfu hR hP hD hS ls (lv_sub hl [1, 0, 2, 3] rfl)
  refine LOOP7 (fun x2_7 => (some x2_7)) (fun x2_7 H1 locs hR hP hD hS ls hl => ?_) (fuelN v1 (((7 : Int32) * p1) + (7 : Int32))) (0 : Int32) v1 _ _ (fuelE _ _) hR hP hD hS ls (lv_sub hl [1, 0, 2, 3] rfl)
  try dsimp only at hR
  refine lv_iload_n hx hb dX7_weekCost_32 rfl (lv_at hl 0 rfl) ?_
  exact W.iret (v := x2_7) hx hb hr (fun t ht hW => ⟨⟨x2_7, (), rfl, Option.some.inj hR, trivial⟩, hS.F ht⟩) hS.2.2 dX7_weekCost_33
abbrev rm_X7_isDear : Room := { frames := 3, cells := 0, slots := 0, locals := 68 }
abbrev q_X7_isDear (dC : Nat → ClassId) (dI : Nat → Nat → Nat) (cI cZ cS : ClassId) (aM : Nat → Nat)  (res : Int32) (A : Nat → Prop) : Array Value → State → Outcome → State → Prop := va_Qi (fun (r : Int32) (u : Unit) => r = res ∧ narrow .boolean (.int r) = .int r) (fun _ _ => True) A
set_option maxHeartbeats 4000000 in
set_option maxRecDepth 100000 in
theorem met_X7_isDear (l : Launch) (dC : Nat → ClassId) (dI : Nat → Nat → Nat) (cI cZ cS : ClassId) (aM : Nat → Nat) (M : Pic) (hs : Int64) (sz : Nat) (p1 : Int32) (res : Int32) (hR : f7_isDear M p1 = some res) : Met l yX7_isDear wsX7_isDear rm_X7_isDear (va_Pc [.ref (aM 0), .int p1] (pW (dC, dI) (tyS cI cZ cS) (wMo cI aM M hs) sz)) (q_X7_isDear dC dI cI cZ cS aM res (a0 sz)) 0 0 (a0 sz) := by
  refine Met.ofW (cc := cX7_isDear) (maxL := 4) (ret := (some .boolean)) (by decide) rfl ?_
  intro p e s m args below meth c s₁ B hml hv
  obtain ⟨rfl, hsz, hP, hK, hD0, hN⟩ := hv
  have hx := B.exec
  have hb := B.bytes
  have hr := B.returns
  have hts := atoms_spec (ws := wsX7_isDear) B.pre
  have hown : s.vm.findClass RX7 = some m.cls := findClass_of_methodNamed B.named
  have hlocks := B.notSynchronized
  subst hsz
  have hD := hD0
  have hA : ∀ q : Nat, s.heap.size ≤ q → a0 s.heap.size q := fun q h => Or.inr h
  have hS : va_S (a0 s.heap.size) s.heap s.heap [] := va_S.rf
  have hP : va_P (dC, dI) vwCl (wMo cI aM M hs) s.heap := hP
  rw [f7_isDear] at hR
  have hl := lv_entry ([.ref (aM 0), .int p1]) (n := 4) (Nat.le_of_ble_eq_true rfl)
  rw [lg_entry_eq]
  generalize (lg_sl ([.ref (aM 0), .int p1]) ++ List.replicate (4 - (lg_sl ([.ref (aM 0), .int p1])).length) Slot.unset).toArray = ls at hl ⊢
  have hl : lv_has ls 4 [(0, .ref (aM 0)), (1, .int p1)] := hl
  refine lv_iconst (v := (0 : Int32)) hx hb dX7_isDear_0 (by decide) ?_
  refine lv_istore_n (lv' := [(2, .int (0 : Int32)), (0, .ref (aM 0)), (1, .int p1)]) hx hb dX7_isDear_1 rfl hl (by decide) rfl (fun ls hl => ?_)
  refine lv_iconst (v := (0 : Int32)) hx hb dX7_isDear_2 (by decide) ?_
  refine lv_istore_n (lv' := [(3, .int (0 : Int32)), (2, .int (0 : Int32)), (0, .ref (aM 0)), (1, .int p1)]) hx hb dX7_isDear_3 rfl hl (by decide) rfl (fun ls hl => ?_)
  have LOOP4 : ∀ (k : Int32 → (Option (Int32))), (∀ (x2_4 : Int32) (H1 : Heap) (locs : List Loc), narrow .boolean (.int x2_4) = .int x2_4 → k x2_4 = some res → va_P (dC, dI) vwCl (wMo cI aM M hs) H1 → va_D (fun _ => True) (wMo cI aM M hs) → va_S (a0 s.heap.size) s.heap H1 locs → ∀ (ls : Array Slot), lv_has ls 4 [(2, .int x2_4)] → W p l e (headSpec wsX7_isDear rm_X7_isDear).room s m ([.ref (aM 0), .int p1] : List Value).toArray below meth c H1 locs 0 0 (MQ below (q_X7_isDear dC dI cI cZ cS aM res (a0 s.heap.size)) ([.ref (aM 0), .int p1] : List Value).toArray s 0 0 (a0 s.heap.size)) (F0 m 34 ls [])) → ∀ (nf : Nat) (x2_4 : Int32) (x3_4 : Int32) (H1 : Heap) (locs : List Loc), ((4 : Int32)).toInt - (x3_4).toInt ≤ (nf : Int) → narrow .boolean (.int x2_4) = .int x2_4 → f7_isDear_L4 M p1 nf x2_4 x3_4 k = some res → va_P (dC, dI) vwCl (wMo cI aM M hs) H1 → va_D (fun _ => True) (wMo cI aM M hs) → va_S (a0 s.heap.size) s.heap H1 locs → ∀ (ls : Array Slot), lv_has ls 4 [(2, .int x2_4), (3, .int x3_4), (0, .ref (aM 0)), (1, .int p1)] → W p l e (headSpec wsX7_isDear rm_X7_isDear).room s m ([.ref (aM 0), .int p1] : List Value).toArray below meth c H1 locs 0 0 (MQ below (q_X7_isDear dC dI cI cZ cS aM res (a0 s.heap.size)) ([.ref (aM 0), .int p1] : List Value).toArray s 0 0 (a0 s.heap.size)) (F0 m 4 ls []) := by
    intro k hk nf
    induction nf with
    | zero =>
      intro x2_4 x3_4 H1 locs hfu hnb2 hR hP hD hS ls hl
      rw [f7_isDear_L4] at hR
      refine lv_iload_n hx hb dX7_isDear_4 rfl (lv_at hl 1 rfl) ?_
      refine lv_iconst (v := (4 : Int32)) hx hb dX7_isDear_5 (by decide) ?_
      refine lv_icmp_ge (tgt := 34) hx hb dX7_isDear_6 (by decide) (fun c_1 => ?_) (fun c_1 => ?_)
      · skip
        exact hk x2_4 _ _ hnb2 hR hP hD hS ls (lv_sub hl [0] rfl)
      · exact (fuel0 hfu c_1).elim
    | succ nf ih =>
      intro x2_4 x3_4 H1 locs hfu hnb2 hR hP hD hS ls hl
      rw [f7_isDear_L4] at hR
      refine lv_iload_n hx hb dX7_isDear_4 rfl (lv_at hl 1 rfl) ?_
      refine lv_iconst (v := (4 : Int32)) hx hb dX7_isDear_5 (by decide) ?_
      refine lv_icmp_ge (tgt := 34) hx hb dX7_isDear_6 (by decide) (fun c_2 => ?_) (fun c_2 => ?_)
      · rw [if_pos c_2] at hR
        exact hk x2_4 _ _ hnb2 hR hP hD hS ls (lv_sub hl [0] rfl)
      · rw [if_neg c_2] at hR
        have hfu := fuelS hfu c_2
        refine lv_iload_n hx hb dX7_isDear_9 rfl (lv_at hl 0 rfl) ?_
        refine lv_if_ne (tgt := 22) hx hb dX7_isDear_10 (by decide) (fun c_3 => ?_) (fun c_3 => ?_)
        · rw [if_neg c_3] at hR
          refine lv_iconst (v := (1 : Int32)) hx hb dX7_isDear_22 (by decide) ?_
          refine lv_goto (tgt := 27) hx hb dX7_isDear_23 (by decide) ?_
          refine lv_istore_n (lv' := [(2, .int (1 : Int32)), (3, .int x3_4), (0, .ref (aM 0)), (1, .int p1)]) hx hb dX7_isDear_27 rfl hl (by decide) rfl (fun ls hl => ?_)
          refine lv_iinc (v := (x3_4 + 1)) (lv' := [(3, .int (x3_4 + 1)), (2, .int (1 : Int32)), (0, .ref (aM 0)), (1, .int p1)]) hx hb dX7_isDear_28 hl (k := 1) rfl rfl (by decide) rfl (fun ls hl => ?_)
          refine lv_goto (tgt := 4) hx hb dX7_isDear_31 (by decide) ?_
          exact ih (1 : Int32) (x3_4 + 1) _ _ hfu rfl hR hP hD hS ls (lv_sub hl [1, 0, 2, 3] rfl)
        · rw [if_pos c_3] at hR
          refine lv_aload_n hx hb dX7_isDear_13 rfl (lv_at hl 2 rfl) ?_
          refine lv_iload_n hx hb dX7_isDear_14 rfl (lv_at hl 1 rfl) ?_
          obtain ⟨r4, hc5, hR⟩ := ob1_e hR
          refine va_calli (va_runV (As := [.int x3_4]) (rest := []) ⟨hx, hb, hml, hown, hts⟩ (met_X7_weekCost l dC dI cI cZ cS aM M hs H1.size x3_4 r4 hc5) (cwV 1 hts gX7_isDear_X7_weekCost rfl rfl rfl (by decide +kernel) ⟨Nat.le_of_ble_eq_true rfl, Nat.le_of_ble_eq_true rfl⟩) (pV (wc := wMo cI aM M hs) (ci := 7) (q0 := 0) hK hP hD hN [0, 1, 2, 3, 4, 5, 6, 7, 8] rfl (by decide) rfl rfl) rfl rfl hl.1 rfl (lv_room (Nat.le_of_ble_eq_true rfl)) dX7_isDear_15 ⟨Nat.zero_le _, Nat.zero_le _⟩) hS (fun q _ h => a0_in hS hA q h) (a0_in hS hA) (fun r4 u t H2 locs ht hvm hw hB hz1 hk1 hS => ?_)
          cases hw
          have hP := rdk hP hk1
          refine lv_iload_n hx hb dX7_isDear_18 rfl (lv_at hl 3 rfl) ?_
          refine lv_icmp_le (tgt := 26) hx hb dX7_isDear_19 (by decide) (fun c_6 => ?_) (fun c_6 => ?_)
          · rw [if_pos c_6] at hR
            refine lv_iconst (v := (0 : Int32)) hx hb dX7_isDear_26 (by decide) ?_
            refine lv_istore_n (lv' := [(2, .int (0 : Int32)), (3, .int x3_4), (0, .ref (aM 0)), (1, .int p1)]) hx hb dX7_isDear_27 rfl hl (by decide) rfl (fun ls hl => ?_)
            refine lv_iinc (v := (x3_4 + 1)) (lv' := [(3, .int (x3_4 + 1)), (2, .int (0 : Int32)), (0, .ref (aM 0)), (1, .int p1)]) hx hb dX7_isDear_28 hl (k := 1) rfl rfl (by decide) rfl (fun ls hl => ?_)
            refine lv_goto (tgt := 4) hx hb dX7_isDear_31 (by decide) ?_
            exact ih (0 : Int32) (x3_4 + 1) _ _ hfu rfl hR hP hD hS ls (lv_sub hl [1, 0, 2, 3] rfl)
          · rw [if_neg c_6] at hR
            refine lv_iconst (v := (1 : Int32)) hx hb dX7_isDear_22 (by decide) ?_
            refine lv_goto (tgt := 27) hx hb dX7_isDear_23 (by decide) ?_
            refine lv_istore_n (lv' := [(2, .int (1 : Int32)), (3, .int x3_4), (0, .ref (aM 0)), (1, .int p1)]) hx hb dX7_isDear_27 rfl hl (by decide) rfl (fun ls hl => ?_)
            refine lv_iinc (v := (x3_4 + 1)) (lv' := [(3, .int (x3_4 + 1)), (2, .int (1 : Int32)), (0, .ref (aM 0)), (1, .int p1)]) hx hb dX7_isDear_28 hl (k := 1) rfl rfl (by decide) rfl (fun ls hl => ?_)
            refine lv_goto (tgt := 4) hx hb dX7_isDear_31 (by decide) ?_
            exact ih (1 : Int32) (x3_4 + 1) _ _ hfu rfl hR hP hD hS ls (lv_sub hl [1, 0, 2, 3] rfl)
  refine LOOP4 (fun x2_4 => (some x2_4)) (fun x2_4 H1 locs hnb2 hR hP hD hS ls hl => ?_) 4 (0 : Int32) (0 : Int32) _ _ (by decide) rfl hR hP hD hS ls (lv_sub hl [1, 0, 2, 3] rfl)
  try dsimp only at hR
  refine lv_iload_n hx hb dX7_isDear_34 rfl (lv_at hl 0 rfl) ?_
  exact W.zret (v := x2_4) (ty := .boolean) hx hb hr hnb2 (fun t ht hW => ⟨⟨x2_4, (), rfl, ⟨Option.some.inj hR, hnb2⟩, trivial⟩, hS.F ht⟩) hS.2.2 dX7_isDear_35
abbrev rm_X7_isGood : Room := { frames := 5, cells := 0, slots := 0, locals := 114 }
abbrev q_X7_isGood (dC : Nat → ClassId) (dI : Nat → Nat → Nat) (cI cZ cS : ClassId) (aM : Nat → Nat) (hs : Int64) (res : Int32 × Pic) (A : Nat → Prop) : Array Value → State → Outcome → State → Prop := va_Qi (fun (r : Int32) (u : Pic) => (r, u) = res ∧ narrow .boolean (.int r) = .int r) (fun u t => va_P (dC, dI) vwCl (wMo cI aM u hs) t.heap) A
set_option maxHeartbeats 4000000 in
set_option maxRecDepth 100000 in
theorem met_X7_isGood (l : Launch) (dC : Nat → ClassId) (dI : Nat → Nat → Nat) (cI cZ cS : ClassId) (aM : Nat → Nat) (M : Pic) (hs : Int64) (sz : Nat)  (res : Int32 × Pic) (hR : f7_isGood M = some res) : Met l yX7_isGood wsX7_isGood rm_X7_isGood (va_Pc [.ref (aM 0)] (pW (dC, dI) (tyS cI cZ cS) (wMo cI aM M hs) sz)) (q_X7_isGood dC dI cI cZ cS aM hs res (va_A (wMo cI aM M hs) sz)) 0 0 (va_A (wMo cI aM M hs) sz) := by
  refine Met.ofW (cc := cX7_isGood) (maxL := 1) (ret := (some .boolean)) (by decide) rfl ?_
  intro p e s m args below meth c s₁ B hml hv
  obtain ⟨rfl, hsz, hP, hK, hD0, hN⟩ := hv
  have hx := B.exec
  have hb := B.bytes
  have hr := B.returns
  have hts := atoms_spec (ws := wsX7_isGood) B.pre
  have hown : s.vm.findClass RX7 = some m.cls := findClass_of_methodNamed B.named
  have hlocks := B.notSynchronized
  subst hsz
  have hD := hD0.self (sz := s.heap.size)
  generalize hAe : va_A (wMo cI aM M hs) s.heap.size = A at hD ⊢
  have hA : ∀ q : Nat, s.heap.size ≤ q → A q := fun q h => by rw [← hAe]; exact Or.inr h
  have hS : va_S A s.heap s.heap [] := va_S.rf
  have hP : va_P (dC, dI) vwCl (wMo cI aM M hs) s.heap := hP
  rw [f7_isGood] at hR
  have hin7 : ∀ w ∈ wsX70, w ∈ wsX7_isGood := by decide +kernel
  have hl := lv_entry ([.ref (aM 0)]) (n := 1) (Nat.le_of_ble_eq_true rfl)
  rw [lg_entry_eq]
  generalize (lg_sl ([.ref (aM 0)]) ++ List.replicate (1 - (lg_sl ([.ref (aM 0)])).length) Slot.unset).toArray = ls at hl ⊢
  have hl : lv_has ls 1 [(0, .ref (aM 0))] := hl
  refine lv_aload_n hx hb dX7_isGood_0 rfl (lv_at hl 0 rfl) ?_
  obtain ⟨r1, hc2, hR⟩ := ob1_e hR
  refine va_calli (va_runV (As := []) (rest := []) ⟨hx, hb, hml, hown, hts⟩ (met_X7_someVetoed l dC dI cI cZ cS aM M hs s.heap.size r1 hc2) (cwV 0 hts gX7_isGood_X7_someVetoed rfl rfl rfl (by decide +kernel) ⟨Nat.le_of_ble_eq_true rfl, Nat.le_of_ble_eq_true rfl⟩) (pV (wc := wMo cI aM M hs) (ci := 7) (q0 := 0) hK hP hD hN [0, 1, 2, 3, 4, 5, 6, 7, 8] rfl (by decide) rfl rfl) rfl rfl hl.1 rfl (lv_room (Nat.le_of_ble_eq_true rfl)) dX7_isGood_1 ⟨Nat.zero_le _, Nat.zero_le _⟩) hS (fun q _ h => a0_in hS hA q h) (a0_in hS hA) (fun r1 u t H1 locs ht hvm hw hB hz1 hk1 hS => ?_)
  obtain ⟨hw, nb3⟩ := hw
  cases hw
  have hP := rdk hP hk1
  refine lv_if_ne (tgt := 31) hx hb dX7_isGood_4 (by decide) (fun c_4 => ?_) (fun c_4 => ?_)
  · rw [if_neg c_4] at hR
    refine lv_iconst (v := (0 : Int32)) hx hb dX7_isGood_31 (by decide) ?_
    exact W.zret (v := (0 : Int32)) (ty := .boolean) hx hb hr rfl (fun t ht hW => ⟨⟨(0 : Int32), M, rfl, ⟨Option.some.inj hR, rfl⟩, P_at ht hP⟩, hS.F ht⟩) hS.2.2 dX7_isGood_32
  · rw [if_pos c_4] at hR
    refine lv_aload_n hx hb dX7_isGood_7 rfl (lv_at hl 0 rfl) ?_
    refine lv_aload_n hx hb dX7_isGood_8 rfl (lv_at hl 0 rfl) ?_
    refine va_get (D := (dC, dI)) (ci := 7) (v := .ref (aM 1)) (C := RX7) (T := TX7) (N := 15) hx hb hts hin7 hown hK hP 0 rfl rfl 0 (by decide) (hw_ hts 1 rfl) (fun _ h9 => h9) rfl dX7_isGood_9 ?_
    refine lv_iconst (v := (2 : Int32)) hx hb dX7_isGood_12 (by decide) ?_
    refine va_iald (f := (M 0)) hx hb hK hP 1 0 rfl rfl (vp_in_nI (n := 2) (by decide) (by decide)) dX7_isGood_13 ?_
    obtain ⟨r5, hc6, hR⟩ := ob1_e hR
    refine va_calli (va_runV (As := [.int ((M 0) (ix (2 : Int32)))]) (rest := []) ⟨hx, hb, hml, hown, hts⟩ (met_X7_isDear l dC dI cI cZ cS aM M hs H1.size ((M 0) (ix (2 : Int32))) r5 hc6) (cwV 1 hts gX7_isGood_X7_isDear rfl rfl rfl (by decide +kernel) ⟨Nat.le_of_ble_eq_true rfl, Nat.le_of_ble_eq_true rfl⟩) (pV (wc := wMo cI aM M hs) (ci := 7) (q0 := 0) hK hP hD hN [0, 1, 2, 3, 4, 5, 6, 7, 8] rfl (by decide) rfl rfl) rfl rfl hl.1 rfl (lv_room (Nat.le_of_ble_eq_true rfl)) dX7_isGood_14 ⟨Nat.zero_le _, Nat.zero_le _⟩) hS (fun q _ h => a0_in hS hA q h) (a0_in hS hA) (fun r5 u t H2 locs ht hvm hw hB hz1 hk1 hS => ?_)
    obtain ⟨hw, nb7⟩ := hw
    cases hw
    have hP := rdk hP hk1
    refine lv_if_ne (tgt := 31) hx hb dX7_isGood_17 (by decide) (fun c_8 => ?_) (fun c_8 => ?_)
    · rw [if_neg c_8] at hR
      refine lv_iconst (v := (0 : Int32)) hx hb dX7_isGood_31 (by decide) ?_
      exact W.zret (v := (0 : Int32)) (ty := .boolean) hx hb hr rfl (fun t ht hW => ⟨⟨(0 : Int32), M, rfl, ⟨Option.some.inj hR, rfl⟩, P_at ht hP⟩, hS.F ht⟩) hS.2.2 dX7_isGood_32
    · rw [if_pos c_8] at hR
      refine lv_aload_n hx hb dX7_isGood_20 rfl (lv_at hl 0 rfl) ?_
      obtain ⟨r9, u10, hc11, hR⟩ := ob2_e hR
      have hF := va_free (wc := wMo cI aM M hs) hD hS hA [0, 1, 2, 3, 4, 5, 6, 7, 8] rfl
      refine va_calli (va_runV (As := []) (rest := []) ⟨hx, hb, hml, hown, hts⟩ (met_X7_match l dC dI cI cZ cS aM M hs H2.size (r9, u10) hc11) (cwV 0 hts gX7_isGood_X7_match rfl rfl rfl (by decide +kernel) ⟨Nat.le_of_ble_eq_true rfl, Nat.le_of_ble_eq_true rfl⟩) (pV (wc := wMo cI aM M hs) (ci := 7) (q0 := 0) hK hP hD hN [0, 1, 2, 3, 4, 5, 6, 7, 8] rfl (by decide) rfl rfl) rfl rfl hl.1 rfl (lv_room (Nat.le_of_ble_eq_true rfl)) dX7_isGood_21 ⟨Nat.zero_le _, Nat.zero_le _⟩) hS (fun q _ h => hF q h) hF (fun r9 u10 t H3 locs ht hvm hw hB hz1 hk1 hS => ?_)
      obtain ⟨hw, nb12⟩ := hw
      try dsimp only at hw hB
      rw [ht] at hB
      cases hw
      have hP := wrk (w2 := wMo cI aM u10 hs) hP hD [0, 1, 2, 3, 4, 5, 6, 7, 8] rfl (by decide) hk1 hB rfl rfl
      have hD := D_addr (w1 := wMo cI aM u10 hs) hD rfl
      refine lv_if_eq (tgt := 31) hx hb dX7_isGood_24 (by decide) (fun c_13 => ?_) (fun c_13 => ?_)
      · rw [if_pos c_13] at hR
        refine lv_iconst (v := (0 : Int32)) hx hb dX7_isGood_31 (by decide) ?_
        exact W.zret (v := (0 : Int32)) (ty := .boolean) hx hb hr rfl (fun t ht hW => ⟨⟨(0 : Int32), u10, rfl, ⟨Option.some.inj hR, rfl⟩, P_at ht hP⟩, hS.F ht⟩) hS.2.2 dX7_isGood_32
      · rw [if_neg c_13] at hR
        refine lv_iconst (v := (1 : Int32)) hx hb dX7_isGood_27 (by decide) ?_
        refine lv_goto (tgt := 32) hx hb dX7_isGood_28 (by decide) ?_
        exact W.zret (v := (1 : Int32)) (ty := .boolean) hx hb hr rfl (fun t ht hW => ⟨⟨(1 : Int32), u10, rfl, ⟨Option.some.inj hR, rfl⟩, P_at ht hP⟩, hS.F ht⟩) hS.2.2 dX7_isGood_32
abbrev rm_X7_joyNow : Room := { frames := 1, cells := 0, slots := 0, locals := 22 }
abbrev q_X7_joyNow (dC : Nat → ClassId) (dI : Nat → Nat → Nat) (cI cZ cS : ClassId) (aM : Nat → Nat)  (res : Int32) (A : Nat → Prop) : Array Value → State → Outcome → State → Prop := va_Qi (fun (r : Int32) (u : Unit) => r = res) (fun _ _ => True) A
set_option maxHeartbeats 4000000 in
set_option maxRecDepth 100000 in
theorem met_X7_joyNow (l : Launch) (dC : Nat → ClassId) (dI : Nat → Nat → Nat) (cI cZ cS : ClassId) (aM : Nat → Nat) (M : Pic) (hs : Int64) (sz : Nat) (p1 : Int32) (p2 : Int32) (res : Int32) (hR : f7_joyNow M p1 p2 = some res) : Met l yX7_joyNow wsX7_joyNow rm_X7_joyNow (va_Pc [.ref (aM 0), .int p1, .int p2] (pW (dC, dI) (tyS cI cZ cS) (wMo cI aM M hs) sz)) (q_X7_joyNow dC dI cI cZ cS aM res (a0 sz)) 0 0 (a0 sz) := by
  refine Met.ofW (cc := cX7_joyNow) (maxL := 6) (ret := (some .int)) (by decide) rfl ?_
  intro p e s m args below meth c s₁ B hml hv
  obtain ⟨rfl, hsz, hP, hK, hD0, hN⟩ := hv
  have hx := B.exec
  have hb := B.bytes
  have hr := B.returns
  have hts := atoms_spec (ws := wsX7_joyNow) B.pre
  have hown : s.vm.findClass RX7 = some m.cls := findClass_of_methodNamed B.named
  have hlocks := B.notSynchronized
  subst hsz
  have hD := hD0
  have hA : ∀ q : Nat, s.heap.size ≤ q → a0 s.heap.size q := fun q h => Or.inr h
  have hS : va_S (a0 s.heap.size) s.heap s.heap [] := va_S.rf
  have hP : va_P (dC, dI) vwCl (wMo cI aM M hs) s.heap := hP
  rw [f7_joyNow] at hR
  have hin7 : ∀ w ∈ wsX70, w ∈ wsX7_joyNow := by decide +kernel
  have hl := lv_entry ([.ref (aM 0), .int p1, .int p2]) (n := 6) (Nat.le_of_ble_eq_true rfl)
  rw [lg_entry_eq]
  generalize (lg_sl ([.ref (aM 0), .int p1, .int p2]) ++ List.replicate (6 - (lg_sl ([.ref (aM 0), .int p1, .int p2])).length) Slot.unset).toArray = ls at hl ⊢
  have hl : lv_has ls 6 [(0, .ref (aM 0)), (1, .int p1), (2, .int p2)] := hl
  refine lv_iconst (v := (3 : Int32)) hx hb dX7_joyNow_0 (by decide) ?_
  refine lv_iload_n hx hb dX7_joyNow_1 rfl (lv_at hl 1 rfl) ?_
  refine lv_aload_n hx hb dX7_joyNow_2 rfl (lv_at hl 0 rfl) ?_
  refine va_get (D := (dC, dI)) (ci := 7) (v := .ref (aM 1)) (C := RX7) (T := TX7) (N := 15) hx hb hts hin7 hown hK hP 0 rfl rfl 0 (by decide) (hw_ hts 1 rfl) (fun _ h9 => h9) rfl dX7_joyNow_3 ?_
  refine lv_iconst (v := (1 : Int32)) hx hb dX7_joyNow_6 (by decide) ?_
  refine va_iald (f := (M 0)) hx hb hK hP 1 0 rfl rfl (vp_in_nI (n := 1) (by decide) (by decide)) dX7_joyNow_7 ?_
  refine lv_isub hx hb dX7_joyNow_8 ?_
  refine lv_imul hx hb dX7_joyNow_9 ?_
  refine lv_topi (fun v1 hv1 => ?_)
  have hR := bd_n hv1 hR
  refine lv_istore_n (lv' := [(3, .int v1), (0, .ref (aM 0)), (1, .int p1), (2, .int p2)]) hx hb dX7_joyNow_10 rfl hl (by decide) rfl (fun ls hl => ?_)
  refine lv_iconst (v := (0 : Int32)) hx hb dX7_joyNow_11 (by decide) ?_
  refine lv_istore (lv' := [(4, .int (0 : Int32)), (3, .int v1), (0, .ref (aM 0)), (1, .int p1), (2, .int p2)]) hx hb dX7_joyNow_12 hl (by decide) rfl (fun ls hl => ?_)
  refine lv_iload_n hx hb dX7_joyNow_14 rfl (lv_at hl 1 rfl) ?_
  obtain ⟨kJ15, hkJ15, hR⟩ := jn_e hR
  have JN15 : ∀ (y0_j15 : Int32) (H1 : Heap) (locs : List Loc), kJ15 y0_j15 = some res → va_P (dC, dI) vwCl (wMo cI aM M hs) H1 → va_D (fun _ => True) (wMo cI aM M hs) → va_S (a0 s.heap.size) s.heap H1 locs → ∀ (ls : Array Slot), lv_has ls 6 [(4, .int (0 : Int32)), (0, .ref (aM 0)), (1, .int p1), (2, .int p2)] → W p l e (headSpec wsX7_joyNow rm_X7_joyNow).room s m ([.ref (aM 0), .int p1, .int p2] : List Value).toArray below meth c H1 locs 0 0 (MQ below (q_X7_joyNow dC dI cI cZ cS aM res (a0 s.heap.size)) ([.ref (aM 0), .int p1, .int p2] : List Value).toArray s 0 0 (a0 s.heap.size)) (F0 m 23 ls [.int y0_j15]) := by
    intro y0_j15 H1 locs hR hP hD hS ls hl
    rw [hkJ15] at hR
    try dsimp only at hR
    refine lv_istore (lv' := [(5, .int y0_j15), (4, .int (0 : Int32)), (0, .ref (aM 0)), (1, .int p1), (2, .int p2)]) hx hb dX7_joyNow_23 hl (by decide) rfl (fun ls hl => ?_)
    have LOOP25 : ∀ (k : Int32 → (Option (Int32))), (∀ (x4_25 : Int32) (H2 : Heap) (locs : List Loc), k x4_25 = some res → va_P (dC, dI) vwCl (wMo cI aM M hs) H2 → va_D (fun _ => True) (wMo cI aM M hs) → va_S (a0 s.heap.size) s.heap H2 locs → ∀ (ls : Array Slot), lv_has ls 6 [(4, .int x4_25), (0, .ref (aM 0)), (2, .int p2)] → W p l e (headSpec wsX7_joyNow rm_X7_joyNow).room s m ([.ref (aM 0), .int p1, .int p2] : List Value).toArray below meth c H2 locs 0 0 (MQ below (q_X7_joyNow dC dI cI cZ cS aM res (a0 s.heap.size)) ([.ref (aM 0), .int p1, .int p2] : List Value).toArray s 0 0 (a0 s.heap.size)) (F0 m 87 ls [])) → ∀ (nf : Nat) (x4_25 : Int32) (x5_25 : Int32) (H2 : Heap) (locs : List Loc), (((3 : Int32) * p1)).toInt - (x5_25).toInt ≤ (nf : Int) → f7_joyNow_L25 M p1 p2 nf x4_25 x5_25 k = some res → va_P (dC, dI) vwCl (wMo cI aM M hs) H2 → va_D (fun _ => True) (wMo cI aM M hs) → va_S (a0 s.heap.size) s.heap H2 locs → ∀ (ls : Array Slot), lv_has ls 6 [(4, .int x4_25), (5, .int x5_25), (0, .ref (aM 0)), (1, .int p1), (2, .int p2)] → W p l e (headSpec wsX7_joyNow rm_X7_joyNow).room s m ([.ref (aM 0), .int p1, .int p2] : List Value).toArray below meth c H2 locs 0 0 (MQ below (q_X7_joyNow dC dI cI cZ cS aM res (a0 s.heap.size)) ([.ref (aM 0), .int p1, .int p2] : List Value).toArray s 0 0 (a0 s.heap.size)) (F0 m 25 ls []) := by
      intro k hk nf
      induction nf with
      | zero =>
        intro x4_25 x5_25 H2 locs hfu hR hP hD hS ls hl
        rw [f7_joyNow_L25] at hR
        refine lv_iload hx hb dX7_joyNow_25 (lv_at hl 1 rfl) ?_
        refine lv_iconst (v := (3 : Int32)) hx hb dX7_joyNow_27 (by decide) ?_
        refine lv_iload_n hx hb dX7_joyNow_28 rfl (lv_at hl 3 rfl) ?_
        refine lv_imul hx hb dX7_joyNow_29 ?_
        refine lv_icmp_ge (tgt := 87) hx hb dX7_joyNow_30 (by decide) (fun c_2 => ?_) (fun c_2 => ?_)
        · skip
          exact hk x4_25 _ _  hR hP hD hS ls (lv_sub hl [0, 2, 4] rfl)
        · exact (fuel0 hfu c_2).elim
      | succ nf ih =>
        intro x4_25 x5_25 H2 locs hfu hR hP hD hS ls hl
        rw [f7_joyNow_L25] at hR
        refine lv_iload hx hb dX7_joyNow_25 (lv_at hl 1 rfl) ?_
        refine lv_iconst (v := (3 : Int32)) hx hb dX7_joyNow_27 (by decide) ?_
        refine lv_iload_n hx hb dX7_joyNow_28 rfl (lv_at hl 3 rfl) ?_
        refine lv_imul hx hb dX7_joyNow_29 ?_
        refine lv_icmp_ge (tgt := 87) hx hb dX7_joyNow_30 (by decide) (fun c_3 => ?_) (fun c_3 => ?_)
        · rw [if_pos c_3] at hR
          exact hk x4_25 _ _  hR hP hD hS ls (lv_sub hl [0, 2, 4] rfl)
        · rw [if_neg c_3] at hR
          have hfu := fuelS hfu c_3
          refine lv_iload hx hb dX7_joyNow_33 (lv_at hl 0 rfl) ?_
          refine lv_aload_n hx hb dX7_joyNow_35 rfl (lv_at hl 2 rfl) ?_
          refine va_get (D := (dC, dI)) (ci := 7) (v := .ref (aM 1)) (C := RX7) (T := TX7) (N := 15) hx hb hts hin7 hown hK hP 0 rfl rfl 0 (by decide) (hw_ hts 1 rfl) (fun _ h9 => h9) rfl dX7_joyNow_36 ?_
          refine lv_bipush (v := (89 : Int32)) hx hb dX7_joyNow_39 (by decide) ?_
          refine lv_iload hx hb dX7_joyNow_41 (lv_at hl 1 rfl) ?_
          refine lv_iadd hx hb dX7_joyNow_43 ?_
          obtain ⟨hix4, hR⟩ := ck_some hR
          refine va_iald (f := (M 0)) hx hb hK hP 1 0 rfl rfl hix4 dX7_joyNow_44 ?_
          refine lv_iconst (v := (-1 : Int32)) hx hb dX7_joyNow_45 (by decide) ?_
          refine lv_icmp_eq (tgt := 77) hx hb dX7_joyNow_46 (by decide) (fun c_5 => ?_) (fun c_5 => ?_)
          · rw [if_pos c_5] at hR
            refine lv_iconst (v := (0 : Int32)) hx hb dX7_joyNow_77 (by decide) ?_
            refine lv_iadd hx hb dX7_joyNow_78 ?_
            refine lv_topi (fun v6 hv6 => ?_)
            have hR := bd_n hv6 hR
            refine lv_istore (lv' := [(4, .int v6), (5, .int x5_25), (0, .ref (aM 0)), (1, .int p1), (2, .int p2)]) hx hb dX7_joyNow_79 hl (by decide) rfl (fun ls hl => ?_)
            refine lv_iinc (v := (x5_25 + 1)) (lv' := [(5, .int (x5_25 + 1)), (4, .int v6), (0, .ref (aM 0)), (1, .int p1), (2, .int p2)]) hx hb dX7_joyNow_81 hl (k := 1) rfl rfl (by decide) rfl (fun ls hl => ?_)
            refine lv_goto (tgt := 25) hx hb dX7_joyNow_84 (by decide) ?_
            exact ih v6 (x5_25 + 1) _ _ hfu hR hP hD hS ls (lv_sub hl [1, 0, 2, 3, 4] rfl)
          · rw [if_neg c_5] at hR
            refine lv_aload_n hx hb dX7_joyNow_49 rfl (lv_at hl 2 rfl) ?_
            refine lv_aload_n hx hb dX7_joyNow_50 rfl (lv_at hl 2 rfl) ?_
            refine va_get (D := (dC, dI)) (ci := 7) (v := .ref (aM 1)) (C := RX7) (T := TX7) (N := 15) hx hb hts hin7 hown hK hP 0 rfl rfl 0 (by decide) (hw_ hts 1 rfl) (fun _ h9 => h9) rfl dX7_joyNow_51 ?_
            refine lv_bipush (v := (89 : Int32)) hx hb dX7_joyNow_54 (by decide) ?_
            refine lv_iload hx hb dX7_joyNow_56 (lv_at hl 1 rfl) ?_
            refine lv_iadd hx hb dX7_joyNow_58 ?_
            obtain ⟨hix7, hR⟩ := ck_some hR
            refine va_iald (f := (M 0)) hx hb hK hP 1 0 rfl rfl hix7 dX7_joyNow_59 ?_
            refine lv_iconst (v := (2 : Int32)) hx hb dX7_joyNow_60 (by decide) ?_
            obtain ⟨r8, hc9, hR⟩ := ob1_e hR
            refine va_calli (va_runV (As := [.int ((M 0) (ix ((89 : Int32) + x5_25))), .int (2 : Int32)]) (rest := [.int x4_25]) ⟨hx, hb, hml, hown, hts⟩ (met_X7_of l dC dI cI cZ cS aM M hs H2.size ((M 0) (ix ((89 : Int32) + x5_25))) (2 : Int32) r8 hc9) (cwV 2 hts gX7_joyNow_X7_of rfl rfl rfl (by decide +kernel) ⟨Nat.le_of_ble_eq_true rfl, Nat.le_of_ble_eq_true rfl⟩) (pV (wc := wMo cI aM M hs) (ci := 7) (q0 := 0) hK hP hD hN [0, 1, 2, 3, 4, 5, 6, 7, 8] rfl (by decide) rfl rfl) rfl rfl hl.1 rfl (lv_room (Nat.le_of_ble_eq_true rfl)) dX7_joyNow_61 ⟨Nat.zero_le _, Nat.zero_le _⟩) hS (fun q _ h => a0_in hS hA q h) (a0_in hS hA) (fun r8 u t H3 locs ht hvm hw hB hz1 hk1 hS => ?_)
            cases hw
            have hP := rdk hP hk1
            refine lv_aload_n hx hb dX7_joyNow_64 rfl (lv_at hl 2 rfl) ?_
            refine lv_iload_n hx hb dX7_joyNow_65 rfl (lv_at hl 4 rfl) ?_
            refine lv_iconst (v := (2 : Int32)) hx hb dX7_joyNow_66 (by decide) ?_
            obtain ⟨r10, hc11, hR⟩ := ob1_e hR
            refine va_calli (va_runV (As := [.int p2, .int (2 : Int32)]) (rest := [.int r8, .int x4_25]) ⟨hx, hb, hml, hown, hts⟩ (met_X7_of l dC dI cI cZ cS aM M hs H3.size p2 (2 : Int32) r10 hc11) (cwV 2 hts gX7_joyNow_X7_of rfl rfl rfl (by decide +kernel) ⟨Nat.le_of_ble_eq_true rfl, Nat.le_of_ble_eq_true rfl⟩) (pV (wc := wMo cI aM M hs) (ci := 7) (q0 := 0) hK hP hD hN [0, 1, 2, 3, 4, 5, 6, 7, 8] rfl (by decide) rfl rfl) rfl rfl hl.1 rfl (lv_room (Nat.le_of_ble_eq_true rfl)) dX7_joyNow_67 ⟨Nat.zero_le _, Nat.zero_le _⟩) hS (fun q _ h => a0_in hS hA q h) (a0_in hS hA) (fun r10 u t H4 locs ht hvm hw hB hz1 hk1 hS => ?_)
            cases hw
            have hP := rdk hP hk1
            refine lv_icmp_ne (tgt := 77) hx hb dX7_joyNow_70 (by decide) (fun c_12 => ?_) (fun c_12 => ?_)
            · rw [if_neg c_12] at hR
              refine lv_iconst (v := (0 : Int32)) hx hb dX7_joyNow_77 (by decide) ?_
              refine lv_iadd hx hb dX7_joyNow_78 ?_
              refine lv_topi (fun v13 hv13 => ?_)
              have hR := bd_n hv13 hR
              refine lv_istore (lv' := [(4, .int v13), (5, .int x5_25), (0, .ref (aM 0)), (1, .int p1), (2, .int p2)]) hx hb dX7_joyNow_79 hl (by decide) rfl (fun ls hl => ?_)
              refine lv_iinc (v := (x5_25 + 1)) (lv' := [(5, .int (x5_25 + 1)), (4, .int v13), (0, .ref (aM 0)), (1, .int p1), (2, .int p2)]) hx hb dX7_joyNow_81 hl (k := 1) rfl rfl (by decide) rfl (fun ls hl => ?_)
              refine lv_goto (tgt := 25) hx hb dX7_joyNow_84 (by decide) ?_
              exact ih v13 (x5_25 + 1) _ _ hfu hR hP hD hS ls (lv_sub hl [1, 0, 2, 3, 4] rfl)
            · rw [if_pos c_12] at hR
              refine lv_iconst (v := (1 : Int32)) hx hb dX7_joyNow_73 (by decide) ?_
              refine lv_goto (tgt := 78) hx hb dX7_joyNow_74 (by decide) ?_
              refine lv_iadd hx hb dX7_joyNow_78 ?_
              refine lv_topi (fun v14 hv14 => ?_)
              have hR := bd_n hv14 hR
              refine lv_istore (lv' := [(4, .int v14), (5, .int x5_25), (0, .ref (aM 0)), (1, .int p1), (2, .int p2)]) hx hb dX7_joyNow_79 hl (by decide) rfl (fun ls hl => ?_)
              refine lv_iinc (v := (x5_25 + 1)) (lv' := [(5, .int (x5_25 + 1)), (4, .int v14), (0, .ref (aM 0)), (1, .int p1), (2, .int p2)]) hx hb dX7_joyNow_81 hl (k := 1) rfl rfl (by decide) rfl (fun ls hl => ?_)
              refine lv_goto (tgt := 25) hx hb dX7_joyNow_84 (by decide) ?_
              exact ih v14 (x5_25 + 1) _ _ hfu hR hP hD hS ls (lv_sub hl [1, 0, 2, 3, 4] rfl)
    refine LOOP25 (fun x4_25 => (ob1 (f7_of M p2 (3 : Int32)) (fun r15 => (bd (r15 - (((M 0) (ix (0 : Int32))) * x4_25)) (fun v17 => (if 0 ≤ v17 then (some v17) else (some (0 : Int32)))))))) (fun x4_25 H2 locs hR hP hD hS ls hl => ?_) (fuelN y0_j15 ((3 : Int32) * p1)) (0 : Int32) y0_j15 _ _ (fuelE _ _) hR hP hD hS ls (lv_sub hl [1, 0, 2, 3, 4] rfl)
    try dsimp only at hR
    refine lv_aload_n hx hb dX7_joyNow_87 rfl (lv_at hl 1 rfl) ?_
    refine lv_iload_n hx hb dX7_joyNow_88 rfl (lv_at hl 2 rfl) ?_
    refine lv_iconst (v := (3 : Int32)) hx hb dX7_joyNow_89 (by decide) ?_
    obtain ⟨r15, hc16, hR⟩ := ob1_e hR
    refine va_calli (va_runV (As := [.int p2, .int (3 : Int32)]) (rest := []) ⟨hx, hb, hml, hown, hts⟩ (met_X7_of l dC dI cI cZ cS aM M hs H2.size p2 (3 : Int32) r15 hc16) (cwV 2 hts gX7_joyNow_X7_of rfl rfl rfl (by decide +kernel) ⟨Nat.le_of_ble_eq_true rfl, Nat.le_of_ble_eq_true rfl⟩) (pV (wc := wMo cI aM M hs) (ci := 7) (q0 := 0) hK hP hD hN [0, 1, 2, 3, 4, 5, 6, 7, 8] rfl (by decide) rfl rfl) rfl rfl hl.1 rfl (lv_room (Nat.le_of_ble_eq_true rfl)) dX7_joyNow_90 ⟨Nat.zero_le _, Nat.zero_le _⟩) hS (fun q _ h => a0_in hS hA q h) (a0_in hS hA) (fun r15 u t H3 locs ht hvm hw hB hz1 hk1 hS => ?_)
    cases hw
    have hP := rdk hP hk1
    refine lv_aload_n hx hb dX7_joyNow_93 rfl (lv_at hl 1 rfl) ?_
    refine va_get (D := (dC, dI)) (ci := 7) (v := .ref (aM 1)) (C := RX7) (T := TX7) (N := 15) hx hb hts hin7 hown hK hP 0 rfl rfl 0 (by decide) (hw_ hts 1 rfl) (fun _ h9 => h9) rfl dX7_joyNow_94 ?_
    refine lv_iconst (v := (0 : Int32)) hx hb dX7_joyNow_97 (by decide) ?_
    refine va_iald (f := (M 0)) hx hb hK hP 1 0 rfl rfl (vp_in_nI (n := 0) (by decide) (by decide)) dX7_joyNow_98 ?_
    refine lv_iload hx hb dX7_joyNow_99 (lv_at hl 0 rfl) ?_
    refine lv_imul hx hb dX7_joyNow_101 ?_
    refine lv_isub hx hb dX7_joyNow_102 ?_
    refine lv_topi (fun v17 hv17 => ?_)
    have hR := bd_n hv17 hR
    refine lv_istore (lv' := [(5, .int v17), (4, .int x4_25), (0, .ref (aM 0)), (2, .int p2)]) hx hb dX7_joyNow_103 hl (by decide) rfl (fun ls hl => ?_)
    refine lv_iload hx hb dX7_joyNow_105 (lv_at hl 0 rfl) ?_
    refine lv_if_ge (tgt := 114) hx hb dX7_joyNow_107 (by decide) (fun c_18 => ?_) (fun c_18 => ?_)
    · rw [if_pos c_18] at hR
      refine lv_iload hx hb dX7_joyNow_114 (lv_at hl 0 rfl) ?_
      exact W.iret (v := v17) hx hb hr (fun t ht hW => ⟨⟨v17, (), rfl, Option.some.inj hR, trivial⟩, hS.F ht⟩) hS.2.2 dX7_joyNow_116
    · rw [if_neg c_18] at hR
      refine lv_iconst (v := (0 : Int32)) hx hb dX7_joyNow_110 (by decide) ?_
      refine lv_goto (tgt := 116) hx hb dX7_joyNow_111 (by decide) ?_
      exact W.iret (v := (0 : Int32)) hx hb hr (fun t ht hW => ⟨⟨(0 : Int32), (), rfl, Option.some.inj hR, trivial⟩, hS.F ht⟩) hS.2.2 dX7_joyNow_116
  refine lv_if_ge (tgt := 22) hx hb dX7_joyNow_15 (by decide) (fun c_19 => ?_) (fun c_19 => ?_)
  · rw [if_pos c_19] at hR
    refine lv_iload_n hx hb dX7_joyNow_22 rfl (lv_at hl 1 rfl) ?_
    exact JN15 v1 _ _ hR hP hD hS ls (lv_sub hl [0, 2, 3, 4] rfl)
  · rw [if_neg c_19] at hR
    refine lv_iconst (v := (0 : Int32)) hx hb dX7_joyNow_18 (by decide) ?_
    refine lv_goto (tgt := 23) hx hb dX7_joyNow_19 (by decide) ?_
    exact JN15 (0 : Int32) _ _ hR hP hD hS ls (lv_sub hl [0, 2, 3, 4] rfl)
abbrev rm_X7_joyOf : Room := { frames := 2, cells := 0, slots := 0, locals := 47 }
abbrev q_X7_joyOf (dC : Nat → ClassId) (dI : Nat → Nat → Nat) (cI cZ cS : ClassId) (aM : Nat → Nat)  (res : Int32) (A : Nat → Prop) : Array Value → State → Outcome → State → Prop := va_Qi (fun (r : Int32) (u : Unit) => r = res) (fun _ _ => True) A
set_option maxHeartbeats 4000000 in
set_option maxRecDepth 100000 in
theorem met_X7_joyOf (l : Launch) (dC : Nat → ClassId) (dI : Nat → Nat → Nat) (cI cZ cS : ClassId) (aM : Nat → Nat) (M : Pic) (hs : Int64) (sz : Nat) (p1 : Int32) (res : Int32) (hR : f7_joyOf M p1 = some res) : Met l yX7_joyOf wsX7_joyOf rm_X7_joyOf (va_Pc [.ref (aM 0), .int p1] (pW (dC, dI) (tyS cI cZ cS) (wMo cI aM M hs) sz)) (q_X7_joyOf dC dI cI cZ cS aM res (a0 sz)) 0 0 (a0 sz) := by
  refine Met.ofW (cc := cX7_joyOf) (maxL := 4) (ret := (some .int)) (by decide) rfl ?_
  intro p e s m args below meth c s₁ B hml hv
  obtain ⟨rfl, hsz, hP, hK, hD0, hN⟩ := hv
  have hx := B.exec
  have hb := B.bytes
  have hr := B.returns
  have hts := atoms_spec (ws := wsX7_joyOf) B.pre
  have hown : s.vm.findClass RX7 = some m.cls := findClass_of_methodNamed B.named
  have hlocks := B.notSynchronized
  subst hsz
  have hD := hD0
  have hA : ∀ q : Nat, s.heap.size ≤ q → a0 s.heap.size q := fun q h => Or.inr h
  have hS : va_S (a0 s.heap.size) s.heap s.heap [] := va_S.rf
  have hP : va_P (dC, dI) vwCl (wMo cI aM M hs) s.heap := hP
  rw [f7_joyOf] at hR
  have hl := lv_entry ([.ref (aM 0), .int p1]) (n := 4) (Nat.le_of_ble_eq_true rfl)
  rw [lg_entry_eq]
  generalize (lg_sl ([.ref (aM 0), .int p1]) ++ List.replicate (4 - (lg_sl ([.ref (aM 0), .int p1])).length) Slot.unset).toArray = ls at hl ⊢
  have hl : lv_has ls 4 [(0, .ref (aM 0)), (1, .int p1)] := hl
  refine lv_iconst (v := (0 : Int32)) hx hb dX7_joyOf_0 (by decide) ?_
  refine lv_istore_n (lv' := [(2, .int (0 : Int32)), (0, .ref (aM 0)), (1, .int p1)]) hx hb dX7_joyOf_1 rfl hl (by decide) rfl (fun ls hl => ?_)
  refine lv_iconst (v := (0 : Int32)) hx hb dX7_joyOf_2 (by decide) ?_
  refine lv_istore_n (lv' := [(3, .int (0 : Int32)), (2, .int (0 : Int32)), (0, .ref (aM 0)), (1, .int p1)]) hx hb dX7_joyOf_3 rfl hl (by decide) rfl (fun ls hl => ?_)
  have LOOP4 : ∀ (k : Int32 → (Option (Int32))), (∀ (x2_4 : Int32) (H1 : Heap) (locs : List Loc), k x2_4 = some res → va_P (dC, dI) vwCl (wMo cI aM M hs) H1 → va_D (fun _ => True) (wMo cI aM M hs) → va_S (a0 s.heap.size) s.heap H1 locs → ∀ (ls : Array Slot), lv_has ls 4 [(2, .int x2_4)] → W p l e (headSpec wsX7_joyOf rm_X7_joyOf).room s m ([.ref (aM 0), .int p1] : List Value).toArray below meth c H1 locs 0 0 (MQ below (q_X7_joyOf dC dI cI cZ cS aM res (a0 s.heap.size)) ([.ref (aM 0), .int p1] : List Value).toArray s 0 0 (a0 s.heap.size)) (F0 m 43 ls [])) → ∀ (nf : Nat) (x2_4 : Int32) (x3_4 : Int32) (H1 : Heap) (locs : List Loc), ((3 : Int32)).toInt - (x3_4).toInt ≤ (nf : Int) → f7_joyOf_L4 M p1 nf x2_4 x3_4 k = some res → va_P (dC, dI) vwCl (wMo cI aM M hs) H1 → va_D (fun _ => True) (wMo cI aM M hs) → va_S (a0 s.heap.size) s.heap H1 locs → ∀ (ls : Array Slot), lv_has ls 4 [(2, .int x2_4), (3, .int x3_4), (0, .ref (aM 0)), (1, .int p1)] → W p l e (headSpec wsX7_joyOf rm_X7_joyOf).room s m ([.ref (aM 0), .int p1] : List Value).toArray below meth c H1 locs 0 0 (MQ below (q_X7_joyOf dC dI cI cZ cS aM res (a0 s.heap.size)) ([.ref (aM 0), .int p1] : List Value).toArray s 0 0 (a0 s.heap.size)) (F0 m 4 ls []) := by
    intro k hk nf
    induction nf with
    | zero =>
      intro x2_4 x3_4 H1 locs hfu hR hP hD hS ls hl
      rw [f7_joyOf_L4] at hR
      refine lv_iload_n hx hb dX7_joyOf_4 rfl (lv_at hl 1 rfl) ?_
      refine lv_iconst (v := (3 : Int32)) hx hb dX7_joyOf_5 (by decide) ?_
      refine lv_icmp_ge (tgt := 43) hx hb dX7_joyOf_6 (by decide) (fun c_1 => ?_) (fun c_1 => ?_)
      · skip
        exact hk x2_4 _ _  hR hP hD hS ls (lv_sub hl [0] rfl)
      · exact (fuel0 hfu c_1).elim
    | succ nf ih =>
      intro x2_4 x3_4 H1 locs hfu hR hP hD hS ls hl
      rw [f7_joyOf_L4] at hR
      refine lv_iload_n hx hb dX7_joyOf_4 rfl (lv_at hl 1 rfl) ?_
      refine lv_iconst (v := (3 : Int32)) hx hb dX7_joyOf_5 (by decide) ?_
      refine lv_icmp_ge (tgt := 43) hx hb dX7_joyOf_6 (by decide) (fun c_2 => ?_) (fun c_2 => ?_)
      · rw [if_pos c_2] at hR
        exact hk x2_4 _ _  hR hP hD hS ls (lv_sub hl [0] rfl)
      · rw [if_neg c_2] at hR
        have hfu := fuelS hfu c_2
        refine lv_iload_n hx hb dX7_joyOf_9 rfl (lv_at hl 0 rfl) ?_
        refine lv_aload_n hx hb dX7_joyOf_10 rfl (lv_at hl 2 rfl) ?_
        refine lv_iload_n hx hb dX7_joyOf_11 rfl (lv_at hl 3 rfl) ?_
        refine lv_iload_n hx hb dX7_joyOf_12 rfl (lv_at hl 1 rfl) ?_
        obtain ⟨r3, hc4, hR⟩ := ob1_e hR
        refine va_calli (va_runV (As := [.int p1, .int x3_4]) (rest := [.int x2_4]) ⟨hx, hb, hml, hown, hts⟩ (met_X7_at l dC dI cI cZ cS aM M hs H1.size p1 x3_4 r3 hc4) (cwV 2 hts gX7_joyOf_X7_at rfl rfl rfl (by decide +kernel) ⟨Nat.le_of_ble_eq_true rfl, Nat.le_of_ble_eq_true rfl⟩) (pV (wc := wMo cI aM M hs) (ci := 7) (q0 := 0) hK hP hD hN [0, 1, 2, 3, 4, 5, 6, 7, 8] rfl (by decide) rfl rfl) rfl rfl hl.1 rfl (lv_room (Nat.le_of_ble_eq_true rfl)) dX7_joyOf_13 ⟨Nat.zero_le _, Nat.zero_le _⟩) hS (fun q _ h => a0_in hS hA q h) (a0_in hS hA) (fun r3 u t H2 locs ht hvm hw hB hz1 hk1 hS => ?_)
        cases hw
        have hP := rdk hP hk1
        refine lv_iconst (v := (-1 : Int32)) hx hb dX7_joyOf_16 (by decide) ?_
        refine lv_icmp_ne (tgt := 24) hx hb dX7_joyOf_17 (by decide) (fun c_5 => ?_) (fun c_5 => ?_)
        · rw [if_neg c_5] at hR
          refine lv_aload_n hx hb dX7_joyOf_24 rfl (lv_at hl 2 rfl) ?_
          refine lv_iload_n hx hb dX7_joyOf_25 rfl (lv_at hl 3 rfl) ?_
          refine lv_aload_n hx hb dX7_joyOf_26 rfl (lv_at hl 2 rfl) ?_
          refine lv_iload_n hx hb dX7_joyOf_27 rfl (lv_at hl 3 rfl) ?_
          refine lv_iload_n hx hb dX7_joyOf_28 rfl (lv_at hl 1 rfl) ?_
          obtain ⟨r6, hc7, hR⟩ := ob1_e hR
          refine va_calli (va_runV (As := [.int p1, .int x3_4]) (rest := [.int p1, .ref (aM 0), .int x2_4]) ⟨hx, hb, hml, hown, hts⟩ (met_X7_at l dC dI cI cZ cS aM M hs H2.size p1 x3_4 r6 hc7) (cwV 2 hts gX7_joyOf_X7_at rfl rfl rfl (by decide +kernel) ⟨Nat.le_of_ble_eq_true rfl, Nat.le_of_ble_eq_true rfl⟩) (pV (wc := wMo cI aM M hs) (ci := 7) (q0 := 0) hK hP hD hN [0, 1, 2, 3, 4, 5, 6, 7, 8] rfl (by decide) rfl rfl) rfl rfl hl.1 rfl (lv_room (Nat.le_of_ble_eq_true rfl)) dX7_joyOf_29 ⟨Nat.zero_le _, Nat.zero_le _⟩) hS (fun q _ h => a0_in hS hA q h) (a0_in hS hA) (fun r6 u t H3 locs ht hvm hw hB hz1 hk1 hS => ?_)
          cases hw
          have hP := rdk hP hk1
          obtain ⟨r8, hc9, hR⟩ := ob1_e hR
          refine va_calli (va_runV (As := [.int p1, .int r6]) (rest := [.int x2_4]) ⟨hx, hb, hml, hown, hts⟩ (met_X7_joyNow l dC dI cI cZ cS aM M hs H3.size p1 r6 r8 hc9) (cwV 2 hts gX7_joyOf_X7_joyNow rfl rfl rfl (by decide +kernel) ⟨Nat.le_of_ble_eq_true rfl, Nat.le_of_ble_eq_true rfl⟩) (pV (wc := wMo cI aM M hs) (ci := 7) (q0 := 0) hK hP hD hN [0, 1, 2, 3, 4, 5, 6, 7, 8] rfl (by decide) rfl rfl) rfl rfl hl.1 rfl (lv_room (Nat.le_of_ble_eq_true rfl)) dX7_joyOf_32 ⟨Nat.zero_le _, Nat.zero_le _⟩) hS (fun q _ h => a0_in hS hA q h) (a0_in hS hA) (fun r8 u t H4 locs ht hvm hw hB hz1 hk1 hS => ?_)
          cases hw
          have hP := rdk hP hk1
          refine lv_iadd hx hb dX7_joyOf_35 ?_
          refine lv_topi (fun v10 hv10 => ?_)
          have hR := bd_n hv10 hR
          refine lv_istore_n (lv' := [(2, .int v10), (3, .int x3_4), (0, .ref (aM 0)), (1, .int p1)]) hx hb dX7_joyOf_36 rfl hl (by decide) rfl (fun ls hl => ?_)
          refine lv_iinc (v := (x3_4 + 1)) (lv' := [(3, .int (x3_4 + 1)), (2, .int v10), (0, .ref (aM 0)), (1, .int p1)]) hx hb dX7_joyOf_37 hl (k := 1) rfl rfl (by decide) rfl (fun ls hl => ?_)
          refine lv_goto (tgt := 4) hx hb dX7_joyOf_40 (by decide) ?_
          exact ih v10 (x3_4 + 1) _ _ hfu hR hP hD hS ls (lv_sub hl [1, 0, 2, 3] rfl)
        · rw [if_pos c_5] at hR
          refine lv_iconst (v := (0 : Int32)) hx hb dX7_joyOf_20 (by decide) ?_
          refine lv_goto (tgt := 35) hx hb dX7_joyOf_21 (by decide) ?_
          refine lv_iadd hx hb dX7_joyOf_35 ?_
          refine lv_topi (fun v11 hv11 => ?_)
          have hR := bd_n hv11 hR
          refine lv_istore_n (lv' := [(2, .int v11), (3, .int x3_4), (0, .ref (aM 0)), (1, .int p1)]) hx hb dX7_joyOf_36 rfl hl (by decide) rfl (fun ls hl => ?_)
          refine lv_iinc (v := (x3_4 + 1)) (lv' := [(3, .int (x3_4 + 1)), (2, .int v11), (0, .ref (aM 0)), (1, .int p1)]) hx hb dX7_joyOf_37 hl (k := 1) rfl rfl (by decide) rfl (fun ls hl => ?_)
          refine lv_goto (tgt := 4) hx hb dX7_joyOf_40 (by decide) ?_
          exact ih v11 (x3_4 + 1) _ _ hfu hR hP hD hS ls (lv_sub hl [1, 0, 2, 3] rfl)
  refine LOOP4 (fun x2_4 => (some x2_4)) (fun x2_4 H1 locs hR hP hD hS ls hl => ?_) 3 (0 : Int32) (0 : Int32) _ _ (by decide) hR hP hD hS ls (lv_sub hl [1, 0, 2, 3] rfl)
  try dsimp only at hR
  refine lv_iload_n hx hb dX7_joyOf_43 rfl (lv_at hl 0 rfl) ?_
  exact W.iret (v := x2_4) hx hb hr (fun t ht hW => ⟨⟨x2_4, (), rfl, Option.some.inj hR, trivial⟩, hS.F ht⟩) hS.2.2 dX7_joyOf_44
abbrev rm_X7_joyOfAll : Room := { frames := 3, cells := 0, slots := 0, locals := 70 }
abbrev q_X7_joyOfAll (dC : Nat → ClassId) (dI : Nat → Nat → Nat) (cI cZ cS : ClassId) (aM : Nat → Nat)  (res : Int32) (A : Nat → Prop) : Array Value → State → Outcome → State → Prop := va_Qi (fun (r : Int32) (u : Unit) => r = res) (fun _ _ => True) A
set_option maxHeartbeats 4000000 in
set_option maxRecDepth 100000 in
theorem met_X7_joyOfAll (l : Launch) (dC : Nat → ClassId) (dI : Nat → Nat → Nat) (cI cZ cS : ClassId) (aM : Nat → Nat) (M : Pic) (hs : Int64) (sz : Nat)  (res : Int32) (hR : f7_joyOfAll M = some res) : Met l yX7_joyOfAll wsX7_joyOfAll rm_X7_joyOfAll (va_Pc [.ref (aM 0)] (pW (dC, dI) (tyS cI cZ cS) (wMo cI aM M hs) sz)) (q_X7_joyOfAll dC dI cI cZ cS aM res (a0 sz)) 0 0 (a0 sz) := by
  refine Met.ofW (cc := cX7_joyOfAll) (maxL := 3) (ret := (some .int)) (by decide) rfl ?_
  intro p e s m args below meth c s₁ B hml hv
  obtain ⟨rfl, hsz, hP, hK, hD0, hN⟩ := hv
  have hx := B.exec
  have hb := B.bytes
  have hr := B.returns
  have hts := atoms_spec (ws := wsX7_joyOfAll) B.pre
  have hown : s.vm.findClass RX7 = some m.cls := findClass_of_methodNamed B.named
  have hlocks := B.notSynchronized
  subst hsz
  have hD := hD0
  have hA : ∀ q : Nat, s.heap.size ≤ q → a0 s.heap.size q := fun q h => Or.inr h
  have hS : va_S (a0 s.heap.size) s.heap s.heap [] := va_S.rf
  have hP : va_P (dC, dI) vwCl (wMo cI aM M hs) s.heap := hP
  rw [f7_joyOfAll] at hR
  have hl := lv_entry ([.ref (aM 0)]) (n := 3) (Nat.le_of_ble_eq_true rfl)
  rw [lg_entry_eq]
  generalize (lg_sl ([.ref (aM 0)]) ++ List.replicate (3 - (lg_sl ([.ref (aM 0)])).length) Slot.unset).toArray = ls at hl ⊢
  have hl : lv_has ls 3 [(0, .ref (aM 0))] := hl
  refine lv_iconst (v := (0 : Int32)) hx hb dX7_joyOfAll_0 (by decide) ?_
  refine lv_istore_n (lv' := [(1, .int (0 : Int32)), (0, .ref (aM 0))]) hx hb dX7_joyOfAll_1 rfl hl (by decide) rfl (fun ls hl => ?_)
  refine lv_iconst (v := (0 : Int32)) hx hb dX7_joyOfAll_2 (by decide) ?_
  refine lv_istore_n (lv' := [(2, .int (0 : Int32)), (1, .int (0 : Int32)), (0, .ref (aM 0))]) hx hb dX7_joyOfAll_3 rfl hl (by decide) rfl (fun ls hl => ?_)
  have LOOP4 : ∀ (k : Int32 → (Option (Int32))), (∀ (x1_4 : Int32) (H1 : Heap) (locs : List Loc), k x1_4 = some res → va_P (dC, dI) vwCl (wMo cI aM M hs) H1 → va_D (fun _ => True) (wMo cI aM M hs) → va_S (a0 s.heap.size) s.heap H1 locs → ∀ (ls : Array Slot), lv_has ls 3 [(1, .int x1_4)] → W p l e (headSpec wsX7_joyOfAll rm_X7_joyOfAll).room s m ([.ref (aM 0)] : List Value).toArray below meth c H1 locs 0 0 (MQ below (q_X7_joyOfAll dC dI cI cZ cS aM res (a0 s.heap.size)) ([.ref (aM 0)] : List Value).toArray s 0 0 (a0 s.heap.size)) (F0 m 24 ls [])) → ∀ (nf : Nat) (x1_4 : Int32) (x2_4 : Int32) (H1 : Heap) (locs : List Loc), ((28 : Int32)).toInt - (x2_4).toInt ≤ (nf : Int) → f7_joyOfAll_L4 M nf x1_4 x2_4 k = some res → va_P (dC, dI) vwCl (wMo cI aM M hs) H1 → va_D (fun _ => True) (wMo cI aM M hs) → va_S (a0 s.heap.size) s.heap H1 locs → ∀ (ls : Array Slot), lv_has ls 3 [(1, .int x1_4), (2, .int x2_4), (0, .ref (aM 0))] → W p l e (headSpec wsX7_joyOfAll rm_X7_joyOfAll).room s m ([.ref (aM 0)] : List Value).toArray below meth c H1 locs 0 0 (MQ below (q_X7_joyOfAll dC dI cI cZ cS aM res (a0 s.heap.size)) ([.ref (aM 0)] : List Value).toArray s 0 0 (a0 s.heap.size)) (F0 m 4 ls []) := by
    intro k hk nf
    induction nf with
    | zero =>
      intro x1_4 x2_4 H1 locs hfu hR hP hD hS ls hl
      rw [f7_joyOfAll_L4] at hR
      refine lv_iload_n hx hb dX7_joyOfAll_4 rfl (lv_at hl 1 rfl) ?_
      refine lv_bipush (v := (28 : Int32)) hx hb dX7_joyOfAll_5 (by decide) ?_
      refine lv_icmp_ge (tgt := 24) hx hb dX7_joyOfAll_7 (by decide) (fun c_1 => ?_) (fun c_1 => ?_)
      · skip
        exact hk x1_4 _ _  hR hP hD hS ls (lv_sub hl [0] rfl)
      · exact (fuel0 hfu c_1).elim
    | succ nf ih =>
      intro x1_4 x2_4 H1 locs hfu hR hP hD hS ls hl
      rw [f7_joyOfAll_L4] at hR
      refine lv_iload_n hx hb dX7_joyOfAll_4 rfl (lv_at hl 1 rfl) ?_
      refine lv_bipush (v := (28 : Int32)) hx hb dX7_joyOfAll_5 (by decide) ?_
      refine lv_icmp_ge (tgt := 24) hx hb dX7_joyOfAll_7 (by decide) (fun c_2 => ?_) (fun c_2 => ?_)
      · rw [if_pos c_2] at hR
        exact hk x1_4 _ _  hR hP hD hS ls (lv_sub hl [0] rfl)
      · rw [if_neg c_2] at hR
        have hfu := fuelS hfu c_2
        refine lv_iload_n hx hb dX7_joyOfAll_10 rfl (lv_at hl 0 rfl) ?_
        refine lv_aload_n hx hb dX7_joyOfAll_11 rfl (lv_at hl 2 rfl) ?_
        refine lv_iload_n hx hb dX7_joyOfAll_12 rfl (lv_at hl 1 rfl) ?_
        obtain ⟨r3, hc4, hR⟩ := ob1_e hR
        refine va_calli (va_runV (As := [.int x2_4]) (rest := [.int x1_4]) ⟨hx, hb, hml, hown, hts⟩ (met_X7_joyOf l dC dI cI cZ cS aM M hs H1.size x2_4 r3 hc4) (cwV 1 hts gX7_joyOfAll_X7_joyOf rfl rfl rfl (by decide +kernel) ⟨Nat.le_of_ble_eq_true rfl, Nat.le_of_ble_eq_true rfl⟩) (pV (wc := wMo cI aM M hs) (ci := 7) (q0 := 0) hK hP hD hN [0, 1, 2, 3, 4, 5, 6, 7, 8] rfl (by decide) rfl rfl) rfl rfl hl.1 rfl (lv_room (Nat.le_of_ble_eq_true rfl)) dX7_joyOfAll_13 ⟨Nat.zero_le _, Nat.zero_le _⟩) hS (fun q _ h => a0_in hS hA q h) (a0_in hS hA) (fun r3 u t H2 locs ht hvm hw hB hz1 hk1 hS => ?_)
        cases hw
        have hP := rdk hP hk1
        refine lv_iadd hx hb dX7_joyOfAll_16 ?_
        refine lv_topi (fun v5 hv5 => ?_)
        have hR := bd_n hv5 hR
        refine lv_istore_n (lv' := [(1, .int v5), (2, .int x2_4), (0, .ref (aM 0))]) hx hb dX7_joyOfAll_17 rfl hl (by decide) rfl (fun ls hl => ?_)
        refine lv_iinc (v := (x2_4 + 1)) (lv' := [(2, .int (x2_4 + 1)), (1, .int v5), (0, .ref (aM 0))]) hx hb dX7_joyOfAll_18 hl (k := 1) rfl rfl (by decide) rfl (fun ls hl => ?_)
        refine lv_goto (tgt := 4) hx hb dX7_joyOfAll_21 (by decide) ?_
        exact ih v5 (x2_4 + 1) _ _ hfu hR hP hD hS ls (lv_sub hl [1, 0, 2] rfl)
  refine LOOP4 (fun x1_4 => (some x1_4)) (fun x1_4 H1 locs hR hP hD hS ls hl => ?_) 28 (0 : Int32) (0 : Int32) _ _ (by decide) hR hP hD hS ls (lv_sub hl [1, 0, 2] rfl)
  try dsimp only at hR
  refine lv_iload_n hx hb dX7_joyOfAll_24 rfl (lv_at hl 0 rfl) ?_
  exact W.iret (v := x1_4) hx hb hr (fun t ht hW => ⟨⟨x1_4, (), rfl, Option.some.inj hR, trivial⟩, hS.F ht⟩) hS.2.2 dX7_joyOfAll_25
