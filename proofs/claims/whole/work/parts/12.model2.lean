abbrev rm_X7_save : Room := { frames := 0, cells := 0, slots := 0, locals := 0 }
abbrev q_X7_save (dC : Nat → ClassId) (dI : Nat → Nat → Nat) (cI cZ cS : ClassId) (aM : Nat → Nat) (hs : Int64) (res : Pic) (A : Nat → Prop) : Array Value → State → Outcome → State → Prop := va_Qv (fun (u : Pic) => u = res) (fun u t => va_P (dC, dI) vwCl (wMo cI aM u hs) t.heap) A
set_option maxHeartbeats 4000000 in
set_option maxRecDepth 100000 in
theorem met_X7_save (l : Launch) (dC : Nat → ClassId) (dI : Nat → Nat → Nat) (cI cZ cS : ClassId) (aM : Nat → Nat) (M : Pic) (hs : Int64) (sz : Nat)  (res : Pic) (hR : f7_save M = some res) : Met l yX7_save wsX7_save rm_X7_save (va_Pc [.ref (aM 0)] (pW (dC, dI) (tyS cI cZ cS) (wMo cI aM M hs) sz)) (q_X7_save dC dI cI cZ cS aM hs res (va_A (wMo cI aM M hs) sz)) 0 0 (va_A (wMo cI aM M hs) sz) := by
  refine Met.ofW (cc := cX7_save) (maxL := 2) (ret := none) (by decide) rfl ?_
  intro p e s m args below meth c s₁ B hml hv
  obtain ⟨rfl, hsz, hP, hK, hD0, hN⟩ := hv
  have hx := B.exec
  have hb := B.bytes
  have hr := B.returns
  have hts := atoms_spec (ws := wsX7_save) B.pre
  have hown : s.vm.findClass RX7 = some m.cls := findClass_of_methodNamed B.named
  have hlocks := B.notSynchronized
  subst hsz
  have hD := hD0.self (sz := s.heap.size)
  generalize hAe : va_A (wMo cI aM M hs) s.heap.size = A at hD ⊢
  have hA : ∀ q : Nat, s.heap.size ≤ q → A q := fun q h => by rw [← hAe]; exact Or.inr h
  have hS : va_S A s.heap s.heap [] := va_S.rf
  have hP : va_P (dC, dI) vwCl (wMo cI aM M hs) s.heap := hP
  rw [f7_save] at hR
  have hin7 : ∀ w ∈ wsX70, w ∈ wsX7_save := by decide +kernel
  have hl := lv_entry ([.ref (aM 0)]) (n := 2) (Nat.le_of_ble_eq_true rfl)
  rw [lg_entry_eq]
  generalize (lg_sl ([.ref (aM 0)]) ++ List.replicate (2 - (lg_sl ([.ref (aM 0)])).length) Slot.unset).toArray = ls at hl ⊢
  have hl : lv_has ls 2 [(0, .ref (aM 0))] := hl
  refine lv_aload_n hx hb dX7_save_0 rfl (lv_at hl 0 rfl) ?_
  refine va_get (D := (dC, dI)) (ci := 7) (v := .int ((M 1) 0)) (C := RX7) (T := TX7) (N := 15) hx hb hts hin7 hown hK hP 0 rfl rfl 1 (by decide) (hw_ hts 1 rfl) (fun _ h9 => h9) rfl dX7_save_1 ?_
  refine lv_bipush (v := (6 : Int32)) hx hb dX7_save_4 (by decide) ?_
  obtain ⟨kJ6, hkJ6, hR⟩ := jn_e hR
  have JN6 : ∀ (M_j6 : Pic) (H1 : Heap) (locs : List Loc), kJ6 M_j6 = some res → va_P (dC, dI) vwCl (wMo cI aM M_j6 hs) H1 → va_D A (wMo cI aM M_j6 hs) → va_S A s.heap H1 locs → ∀ (ls : Array Slot), lv_has ls 2 [(0, .ref (aM 0))] → W p l e (headSpec wsX7_save rm_X7_save).room s m ([.ref (aM 0)] : List Value).toArray below meth c H1 locs 0 0 (MQ below (q_X7_save dC dI cI cZ cS aM hs res A) ([.ref (aM 0)] : List Value).toArray s 0 0 A) (F0 m 52 ls []) := by
    intro M_j6 H1 locs hR hP hD hS ls hl
    rw [hkJ6] at hR
    try dsimp only at hR
    refine lv_iconst (v := (0 : Int32)) hx hb dX7_save_52 (by decide) ?_
    refine lv_istore_n (lv' := [(1, .int (0 : Int32)), (0, .ref (aM 0))]) hx hb dX7_save_53 rfl hl (by decide) rfl (fun ls hl => ?_)
    have LOOP54 : ∀ (k : Pic → (Option (Pic))), (∀ (M_54 : Pic) (H2 : Heap) (locs : List Loc), k M_54 = some res → va_P (dC, dI) vwCl (wMo cI aM M_54 hs) H2 → va_D A (wMo cI aM M_54 hs) → va_S A s.heap H2 locs → ∀ (ls : Array Slot), lv_has ls 2 [(0, .ref (aM 0))] → W p l e (headSpec wsX7_save rm_X7_save).room s m ([.ref (aM 0)] : List Value).toArray below meth c H2 locs 0 0 (MQ below (q_X7_save dC dI cI cZ cS aM hs res A) ([.ref (aM 0)] : List Value).toArray s 0 0 A) (F0 m 88 ls [])) → ∀ (nf : Nat) (x1_54 : Int32) (M_54 : Pic) (H2 : Heap) (locs : List Loc), ((173 : Int32)).toInt - (x1_54).toInt ≤ (nf : Int) → f7_save_L54  nf x1_54 M_54 k = some res → va_P (dC, dI) vwCl (wMo cI aM M_54 hs) H2 → va_D A (wMo cI aM M_54 hs) → va_S A s.heap H2 locs → ∀ (ls : Array Slot), lv_has ls 2 [(1, .int x1_54), (0, .ref (aM 0))] → W p l e (headSpec wsX7_save rm_X7_save).room s m ([.ref (aM 0)] : List Value).toArray below meth c H2 locs 0 0 (MQ below (q_X7_save dC dI cI cZ cS aM hs res A) ([.ref (aM 0)] : List Value).toArray s 0 0 A) (F0 m 54 ls []) := by
      intro k hk nf
      induction nf with
      | zero =>
        intro x1_54 M_54 H2 locs hfu hR hP hD hS ls hl
        rw [f7_save_L54] at hR
        refine lv_iload_n hx hb dX7_save_54 rfl (lv_at hl 0 rfl) ?_
        refine lv_sipush (v := (173 : Int32)) hx hb dX7_save_55 (by decide) ?_
        refine lv_icmp_ge (tgt := 88) hx hb dX7_save_58 (by decide) (fun c_1 => ?_) (fun c_1 => ?_)
        · skip
          exact hk M_54 _ _  hR hP hD hS ls (lv_sub hl [1] rfl)
        · exact (fuel0 hfu c_1).elim
      | succ nf ih =>
        intro x1_54 M_54 H2 locs hfu hR hP hD hS ls hl
        rw [f7_save_L54] at hR
        refine lv_iload_n hx hb dX7_save_54 rfl (lv_at hl 0 rfl) ?_
        refine lv_sipush (v := (173 : Int32)) hx hb dX7_save_55 (by decide) ?_
        refine lv_icmp_ge (tgt := 88) hx hb dX7_save_58 (by decide) (fun c_2 => ?_) (fun c_2 => ?_)
        · rw [if_pos c_2] at hR
          exact hk M_54 _ _  hR hP hD hS ls (lv_sub hl [1] rfl)
        · rw [if_neg c_2] at hR
          have hfu := fuelS hfu c_2
          refine lv_aload_n hx hb dX7_save_61 rfl (lv_at hl 1 rfl) ?_
          refine va_get (D := (dC, dI)) (ci := 7) (v := .ref (aM 2)) (C := RX7) (T := TX7) (N := 15) hx hb hts hin7 hown hK hP 0 rfl rfl 2 (by decide) (hw_ hts 2 rfl) (fun _ h9 => h9) rfl dX7_save_62 ?_
          refine lv_sipush (v := (173 : Int32)) hx hb dX7_save_65 (by decide) ?_
          refine lv_aload_n hx hb dX7_save_68 rfl (lv_at hl 1 rfl) ?_
          refine va_get (D := (dC, dI)) (ci := 7) (v := .int ((M_54 1) 0)) (C := RX7) (T := TX7) (N := 15) hx hb hts hin7 hown hK hP 0 rfl rfl 1 (by decide) (hw_ hts 1 rfl) (fun _ h9 => h9) rfl dX7_save_69 ?_
          refine lv_imul hx hb dX7_save_72 ?_
          refine lv_iload_n hx hb dX7_save_73 rfl (lv_at hl 0 rfl) ?_
          refine lv_iadd hx hb dX7_save_74 ?_
          refine lv_aload_n hx hb dX7_save_75 rfl (lv_at hl 1 rfl) ?_
          refine va_get (D := (dC, dI)) (ci := 7) (v := .ref (aM 1)) (C := RX7) (T := TX7) (N := 15) hx hb hts hin7 hown hK hP 0 rfl rfl 0 (by decide) (hw_ hts 3 rfl) (fun _ h9 => h9) rfl dX7_save_76 ?_
          refine lv_iload_n hx hb dX7_save_79 rfl (lv_at hl 0 rfl) ?_
          obtain ⟨hix3, hR⟩ := ck_some hR
          refine va_iald (f := (M_54 0)) hx hb hK hP 1 0 rfl rfl hix3 dX7_save_80 ?_
          obtain ⟨hix4, hR⟩ := ck_some hR
          refine va_iast (f := (M_54 2)) hx hb hK hP hD hS 2 0 rfl rfl hix4 dX7_save_81 (fun H3 locs hP hD hS => ?_)
          have hP : va_P (dC, dI) vwCl (wMo cI aM (pset M_54 2 (upd (M_54 2) (ix (((173 : Int32) * ((M_54 1) 0)) + x1_54)) ((M_54 0) (ix x1_54)))) hs) H3 := hP
          have hD : va_D A (wMo cI aM (pset M_54 2 (upd (M_54 2) (ix (((173 : Int32) * ((M_54 1) 0)) + x1_54)) ((M_54 0) (ix x1_54)))) hs) := hD
          obtain ⟨Mb5, hMb5⟩ : ∃ z : Pic, z = (pset M_54 2 (upd (M_54 2) (ix (((173 : Int32) * ((M_54 1) 0)) + x1_54)) ((M_54 0) (ix x1_54)))) := ⟨_, rfl⟩
          rw [← hMb5] at hP hD
          have hR := bd_n hMb5 hR
          refine lv_iinc (v := (x1_54 + 1)) (lv' := [(1, .int (x1_54 + 1)), (0, .ref (aM 0))]) hx hb dX7_save_82 hl (k := 0) rfl rfl (by decide) rfl (fun ls hl => ?_)
          refine lv_goto (tgt := 54) hx hb dX7_save_85 (by decide) ?_
          exact ih (x1_54 + 1) Mb5 _ _ hfu hR hP hD hS ls (lv_sub hl [0, 1] rfl)
    refine LOOP54 (fun M_54 => (bd (pset M_54 1 (fun _ => (((M_54 1) 0) + (1 : Int32)))) (fun Mb6 => (some Mb6)))) (fun M_54 H2 locs hR hP hD hS ls hl => ?_) 173 (0 : Int32) M_j6 _ _ (by decide) hR hP hD hS ls (lv_sub hl [0, 1] rfl)
    try dsimp only at hR
    refine lv_aload_n hx hb dX7_save_88 rfl (lv_at hl 0 rfl) ?_
    refine lv_dup hx hb dX7_save_89 rfl ?_
    refine va_get (D := (dC, dI)) (ci := 7) (v := .int ((M_54 1) 0)) (C := RX7) (T := TX7) (N := 15) hx hb hts hin7 hown hK hP 0 rfl rfl 1 (by decide) (hw_ hts 1 rfl) (fun _ h9 => h9) rfl dX7_save_90 ?_
    refine lv_iconst (v := (1 : Int32)) hx hb dX7_save_93 (by decide) ?_
    refine lv_iadd hx hb dX7_save_94 ?_
    refine va_put (D := (dC, dI)) (ci := 7) (v := .int (((M_54 1) 0) + (1 : Int32))) (ty := .int) (C := RX7) (T := TX7) (N := 15) hx hb hts hin7 tyX7 tyX7_ok nmX7 hown hK hP hD hS 0 rfl rfl 1 (by decide) (hw_ hts 1 rfl) (fun _ h9 => h9) rfl (by decide +kernel) rfl rfl (Nat.le_of_ble_eq_true rfl) dX7_save_95 (fun H3 locs hP hD hS => ?_)
    have hP : va_P (dC, dI) vwCl (wMo cI aM (pset M_54 1 (fun _ => (((M_54 1) 0) + (1 : Int32)))) hs) H3 := hP
    have hD : va_D A (wMo cI aM (pset M_54 1 (fun _ => (((M_54 1) 0) + (1 : Int32)))) hs) := hD
    obtain ⟨Mb6, hMb6⟩ : ∃ z : Pic, z = (pset M_54 1 (fun _ => (((M_54 1) 0) + (1 : Int32)))) := ⟨_, rfl⟩
    rw [← hMb6] at hP hD
    have hR := bd_n hMb6 hR
    exact W.vret hx hb hr (fun t ht hW => ⟨⟨Mb6, rfl, Option.some.inj hR, P_at ht hP⟩, hS.F ht⟩) hS.2.2 dX7_save_98
  refine lv_icmp_ne (tgt := 52) hx hb dX7_save_6 (by decide) (fun c_7 => ?_) (fun c_7 => ?_)
  · rw [if_neg c_7] at hR
    exact JN6 M _ _ hR hP hD hS ls (lv_sub hl [0] rfl)
  · rw [if_pos c_7] at hR
    refine lv_sipush (v := (173 : Int32)) hx hb dX7_save_9 (by decide) ?_
    refine lv_istore_n (lv' := [(1, .int (173 : Int32)), (0, .ref (aM 0))]) hx hb dX7_save_12 rfl hl (by decide) rfl (fun ls hl => ?_)
    have LOOP13 : ∀ (k : Pic → (Option (Pic))), (∀ (M_13 : Pic) (H1 : Heap) (locs : List Loc), k M_13 = some res → va_P (dC, dI) vwCl (wMo cI aM M_13 hs) H1 → va_D A (wMo cI aM M_13 hs) → va_S A s.heap H1 locs → ∀ (ls : Array Slot), lv_has ls 2 [(0, .ref (aM 0))] → W p l e (headSpec wsX7_save rm_X7_save).room s m ([.ref (aM 0)] : List Value).toArray below meth c H1 locs 0 0 (MQ below (q_X7_save dC dI cI cZ cS aM hs res A) ([.ref (aM 0)] : List Value).toArray s 0 0 A) (F0 m 42 ls [])) → ∀ (nf : Nat) (x1_13 : Int32) (M_13 : Pic) (H1 : Heap) (locs : List Loc), ((1038 : Int32)).toInt - (x1_13).toInt ≤ (nf : Int) → f7_save_L13  nf x1_13 M_13 k = some res → va_P (dC, dI) vwCl (wMo cI aM M_13 hs) H1 → va_D A (wMo cI aM M_13 hs) → va_S A s.heap H1 locs → ∀ (ls : Array Slot), lv_has ls 2 [(1, .int x1_13), (0, .ref (aM 0))] → W p l e (headSpec wsX7_save rm_X7_save).room s m ([.ref (aM 0)] : List Value).toArray below meth c H1 locs 0 0 (MQ below (q_X7_save dC dI cI cZ cS aM hs res A) ([.ref (aM 0)] : List Value).toArray s 0 0 A) (F0 m 13 ls []) := by
      intro k hk nf
      induction nf with
      | zero =>
        intro x1_13 M_13 H1 locs hfu hR hP hD hS ls hl
        rw [f7_save_L13] at hR
        refine lv_iload_n hx hb dX7_save_13 rfl (lv_at hl 0 rfl) ?_
        refine lv_sipush (v := (1038 : Int32)) hx hb dX7_save_14 (by decide) ?_
        refine lv_icmp_ge (tgt := 42) hx hb dX7_save_17 (by decide) (fun c_8 => ?_) (fun c_8 => ?_)
        · skip
          exact hk M_13 _ _  hR hP hD hS ls (lv_sub hl [1] rfl)
        · exact (fuel0 hfu c_8).elim
      | succ nf ih =>
        intro x1_13 M_13 H1 locs hfu hR hP hD hS ls hl
        rw [f7_save_L13] at hR
        refine lv_iload_n hx hb dX7_save_13 rfl (lv_at hl 0 rfl) ?_
        refine lv_sipush (v := (1038 : Int32)) hx hb dX7_save_14 (by decide) ?_
        refine lv_icmp_ge (tgt := 42) hx hb dX7_save_17 (by decide) (fun c_9 => ?_) (fun c_9 => ?_)
        · rw [if_pos c_9] at hR
          exact hk M_13 _ _  hR hP hD hS ls (lv_sub hl [1] rfl)
        · rw [if_neg c_9] at hR
          have hfu := fuelS hfu c_9
          refine lv_aload_n hx hb dX7_save_20 rfl (lv_at hl 1 rfl) ?_
          refine va_get (D := (dC, dI)) (ci := 7) (v := .ref (aM 2)) (C := RX7) (T := TX7) (N := 15) hx hb hts hin7 hown hK hP 0 rfl rfl 2 (by decide) (hw_ hts 2 rfl) (fun _ h9 => h9) rfl dX7_save_21 ?_
          refine lv_iload_n hx hb dX7_save_24 rfl (lv_at hl 0 rfl) ?_
          refine lv_sipush (v := (173 : Int32)) hx hb dX7_save_25 (by decide) ?_
          refine lv_isub hx hb dX7_save_28 ?_
          refine lv_aload_n hx hb dX7_save_29 rfl (lv_at hl 1 rfl) ?_
          refine va_get (D := (dC, dI)) (ci := 7) (v := .ref (aM 2)) (C := RX7) (T := TX7) (N := 15) hx hb hts hin7 hown hK hP 0 rfl rfl 2 (by decide) (hw_ hts 2 rfl) (fun _ h9 => h9) rfl dX7_save_30 ?_
          refine lv_iload_n hx hb dX7_save_33 rfl (lv_at hl 0 rfl) ?_
          obtain ⟨hix10, hR⟩ := ck_some hR
          refine va_iald (f := (M_13 2)) hx hb hK hP 2 0 rfl rfl hix10 dX7_save_34 ?_
          obtain ⟨hix11, hR⟩ := ck_some hR
          refine va_iast (f := (M_13 2)) hx hb hK hP hD hS 2 0 rfl rfl hix11 dX7_save_35 (fun H2 locs hP hD hS => ?_)
          have hP : va_P (dC, dI) vwCl (wMo cI aM (pset M_13 2 (upd (M_13 2) (ix (x1_13 - (173 : Int32))) ((M_13 2) (ix x1_13)))) hs) H2 := hP
          have hD : va_D A (wMo cI aM (pset M_13 2 (upd (M_13 2) (ix (x1_13 - (173 : Int32))) ((M_13 2) (ix x1_13)))) hs) := hD
          obtain ⟨Mb12, hMb12⟩ : ∃ z : Pic, z = (pset M_13 2 (upd (M_13 2) (ix (x1_13 - (173 : Int32))) ((M_13 2) (ix x1_13)))) := ⟨_, rfl⟩
          rw [← hMb12] at hP hD
          have hR := bd_n hMb12 hR
          refine lv_iinc (v := (x1_13 + 1)) (lv' := [(1, .int (x1_13 + 1)), (0, .ref (aM 0))]) hx hb dX7_save_36 hl (k := 0) rfl rfl (by decide) rfl (fun ls hl => ?_)
          refine lv_goto (tgt := 13) hx hb dX7_save_39 (by decide) ?_
          exact ih (x1_13 + 1) Mb12 _ _ hfu hR hP hD hS ls (lv_sub hl [0, 1] rfl)
    refine LOOP13 (fun M_13 => (bd (pset M_13 1 (fun _ => (((M_13 1) 0) - (1 : Int32)))) (fun Mb13 => (kJ6 Mb13)))) (fun M_13 H1 locs hR hP hD hS ls hl => ?_) 865 (173 : Int32) M _ _ (by decide) hR hP hD hS ls (lv_sub hl [0, 1] rfl)
    try dsimp only at hR
    refine lv_aload_n hx hb dX7_save_42 rfl (lv_at hl 0 rfl) ?_
    refine lv_dup hx hb dX7_save_43 rfl ?_
    refine va_get (D := (dC, dI)) (ci := 7) (v := .int ((M_13 1) 0)) (C := RX7) (T := TX7) (N := 15) hx hb hts hin7 hown hK hP 0 rfl rfl 1 (by decide) (hw_ hts 1 rfl) (fun _ h9 => h9) rfl dX7_save_44 ?_
    refine lv_iconst (v := (1 : Int32)) hx hb dX7_save_47 (by decide) ?_
    refine lv_isub hx hb dX7_save_48 ?_
    refine va_put (D := (dC, dI)) (ci := 7) (v := .int (((M_13 1) 0) - (1 : Int32))) (ty := .int) (C := RX7) (T := TX7) (N := 15) hx hb hts hin7 tyX7 tyX7_ok nmX7 hown hK hP hD hS 0 rfl rfl 1 (by decide) (hw_ hts 1 rfl) (fun _ h9 => h9) rfl (by decide +kernel) rfl rfl (Nat.le_of_ble_eq_true rfl) dX7_save_49 (fun H2 locs hP hD hS => ?_)
    have hP : va_P (dC, dI) vwCl (wMo cI aM (pset M_13 1 (fun _ => (((M_13 1) 0) - (1 : Int32)))) hs) H2 := hP
    have hD : va_D A (wMo cI aM (pset M_13 1 (fun _ => (((M_13 1) 0) - (1 : Int32)))) hs) := hD
    obtain ⟨Mb13, hMb13⟩ : ∃ z : Pic, z = (pset M_13 1 (fun _ => (((M_13 1) 0) - (1 : Int32)))) := ⟨_, rfl⟩
    rw [← hMb13] at hP hD
    have hR := bd_n hMb13 hR
    exact JN6 Mb13 _ _ hR hP hD hS ls (lv_sub hl [0] rfl)
abbrev rm_X7_addDish : Room := { frames := 2, cells := 0, slots := 0, locals := 42 }
abbrev q_X7_addDish (dC : Nat → ClassId) (dI : Nat → Nat → Nat) (cI cZ cS : ClassId) (aM : Nat → Nat) (hs : Int64) (res : Int32 × Pic) (A : Nat → Prop) : Array Value → State → Outcome → State → Prop := va_Qi (fun (r : Int32) (u : Pic) => (r, u) = res) (fun u t => va_P (dC, dI) vwCl (wMo cI aM u hs) t.heap) A
set_option maxHeartbeats 4000000 in
set_option maxRecDepth 100000 in
theorem met_X7_addDish (l : Launch) (dC : Nat → ClassId) (dI : Nat → Nat → Nat) (cI cZ cS : ClassId) (aM : Nat → Nat) (M : Pic) (hs : Int64) (sz : Nat) (p1 : Int32) (p2 : Int32) (p3 : Int32) (p4 : Int32) (res : Int32 × Pic) (hR : f7_addDish M p1 p2 p3 p4 = some res) : Met l yX7_addDish wsX7_addDish rm_X7_addDish (va_Pc [.ref (aM 0), .int p1, .int p2, .int p3, .int p4] (pW (dC, dI) (tyS cI cZ cS) (wMo cI aM M hs) sz)) (q_X7_addDish dC dI cI cZ cS aM hs res (va_A (wMo cI aM M hs) sz)) 0 0 (va_A (wMo cI aM M hs) sz) := by
  refine Met.ofW (cc := cX7_addDish) (maxL := 7) (ret := (some .int)) (by decide) rfl ?_
  intro p e s m args below meth c s₁ B hml hv
  obtain ⟨rfl, hsz, hP, hK, hD0, hN⟩ := hv
  have hx := B.exec
  have hb := B.bytes
  have hr := B.returns
  have hts := atoms_spec (ws := wsX7_addDish) B.pre
  have hown : s.vm.findClass RX7 = some m.cls := findClass_of_methodNamed B.named
  have hlocks := B.notSynchronized
  subst hsz
  have hD := hD0.self (sz := s.heap.size)
  generalize hAe : va_A (wMo cI aM M hs) s.heap.size = A at hD ⊢
  have hA : ∀ q : Nat, s.heap.size ≤ q → A q := fun q h => by rw [← hAe]; exact Or.inr h
  have hS : va_S A s.heap s.heap [] := va_S.rf
  have hP : va_P (dC, dI) vwCl (wMo cI aM M hs) s.heap := hP
  rw [f7_addDish] at hR
  have hin7 : ∀ w ∈ wsX70, w ∈ wsX7_addDish := by decide +kernel
  have hl := lv_entry ([.ref (aM 0), .int p1, .int p2, .int p3, .int p4]) (n := 7) (Nat.le_of_ble_eq_true rfl)
  rw [lg_entry_eq]
  generalize (lg_sl ([.ref (aM 0), .int p1, .int p2, .int p3, .int p4]) ++ List.replicate (7 - (lg_sl ([.ref (aM 0), .int p1, .int p2, .int p3, .int p4])).length) Slot.unset).toArray = ls at hl ⊢
  have hl : lv_has ls 7 [(0, .ref (aM 0)), (1, .int p1), (2, .int p2), (3, .int p3), (4, .int p4)] := hl
  refine lv_iload_n hx hb dX7_addDish_0 rfl (lv_at hl 1 rfl) ?_
  refine va_calli (va_runS (As := [.int p1]) (rest := []) ⟨hx, hb, hml, hown, hts⟩ (met_X7_isPart l dC dI cI cZ cS s.heap.size p1) (va_cwS 1 hts gX7_addDish_X7_isPart rfl rfl rfl (by decide +kernel) ⟨Nat.le_of_ble_eq_true rfl, Nat.le_of_ble_eq_true rfl⟩) (pS (wc := []) hK hP hD hN [] rfl (by decide)) rfl rfl hl.1 rfl (lv_room (Nat.le_of_ble_eq_true rfl)) dX7_addDish_1 ⟨Nat.zero_le _, Nat.zero_le _⟩) hS (fun q _ h => a0_in hS hA q h) (a0_in hS hA) (fun r1 u t H1 locs ht hvm hw hB hz1 hk1 hS => ?_)
  obtain ⟨hw, nb2⟩ := hw
  subst hw
  have hP := rdk hP hk1
  refine lv_if_eq (tgt := 41) hx hb dX7_addDish_4 (by decide) (fun c_3 => ?_) (fun c_3 => ?_)
  · rw [if_pos c_3] at hR
    refine lv_iconst (v := (0 : Int32)) hx hb dX7_addDish_41 (by decide) ?_
    refine lv_istore (lv' := [(5, .int (0 : Int32)), (0, .ref (aM 0)), (1, .int p1), (2, .int p2), (3, .int p3), (4, .int p4)]) hx hb dX7_addDish_42 hl (by decide) rfl (fun ls hl => ?_)
    refine lv_aload_n hx hb dX7_addDish_44 rfl (lv_at hl 1 rfl) ?_
    refine lv_iload hx hb dX7_addDish_45 (lv_at hl 0 rfl) ?_
    refine lv_if_ne (tgt := 54) hx hb dX7_addDish_47 (by decide) (fun q => absurd (by decide) q) (fun _ => ?_)
    refine lv_iconst (v := (1 : Int32)) hx hb dX7_addDish_50 (by decide) ?_
    refine lv_goto (tgt := 70) hx hb dX7_addDish_51 (by decide) ?_
    refine va_put (D := (dC, dI)) (ci := 7) (v := .int (1 : Int32)) (ty := .int) (C := RX7) (T := TX7) (N := 15) hx hb hts hin7 tyX7 tyX7_ok nmX7 hown hK hP hD hS 0 rfl rfl 7 (by decide) (hw_ hts 2 rfl) (fun _ h9 => h9) rfl (by decide +kernel) rfl rfl (Nat.le_of_ble_eq_true rfl) dX7_addDish_70 (fun H2 locs hP hD hS => ?_)
    have hP : va_P (dC, dI) vwCl (wMo cI aM (pset M 7 (fun _ => (1 : Int32))) hs) H2 := hP
    have hD : va_D A (wMo cI aM (pset M 7 (fun _ => (1 : Int32))) hs) := hD
    refine lv_aload_n hx hb dX7_addDish_73 rfl (lv_at hl 1 rfl) ?_
    refine va_get (D := (dC, dI)) (ci := 7) (v := .int (1 : Int32)) (C := RX7) (T := TX7) (N := 15) hx hb hts hin7 hown hK hP 0 rfl rfl 7 (by decide) (hw_ hts 2 rfl) (fun _ h9 => h9) rfl dX7_addDish_74 ?_
    refine lv_if_le (tgt := 82) hx hb dX7_addDish_77 (by decide) (fun q => absurd q (by decide)) (fun _ => ?_)
    refine lv_iconst (v := (0 : Int32)) hx hb dX7_addDish_80 (by decide) ?_
    exact W.iret (v := (0 : Int32)) hx hb hr (fun t ht hW => ⟨⟨(0 : Int32), (pset M 7 (fun _ => (1 : Int32))), rfl, Option.some.inj hR, P_at ht hP⟩, hS.F ht⟩) hS.2.2 dX7_addDish_81
  · rw [if_neg c_3] at hR
    refine lv_iload_n hx hb dX7_addDish_7 rfl (lv_at hl 2 rfl) ?_
    refine lv_iconst (v := (0 : Int32)) hx hb dX7_addDish_8 (by decide) ?_
    refine lv_bipush (v := (30 : Int32)) hx hb dX7_addDish_9 (by decide) ?_
    refine va_calli (va_runS (As := [.int p2, .int (0 : Int32), .int (30 : Int32)]) (rest := []) ⟨hx, hb, hml, hown, hts⟩ (met_X7_within l dC dI cI cZ cS H1.size p2 (0 : Int32) (30 : Int32)) (va_cwS 3 hts gX7_addDish_X7_within rfl rfl rfl (by decide +kernel) ⟨Nat.le_of_ble_eq_true rfl, Nat.le_of_ble_eq_true rfl⟩) (pS (wc := []) hK hP hD hN [] rfl (by decide)) rfl rfl hl.1 rfl (lv_room (Nat.le_of_ble_eq_true rfl)) dX7_addDish_11 ⟨Nat.zero_le _, Nat.zero_le _⟩) hS (fun q _ h => a0_in hS hA q h) (a0_in hS hA) (fun r4 u t H2 locs ht hvm hw hB hz1 hk1 hS => ?_)
    obtain ⟨hw, nb5⟩ := hw
    subst hw
    have hP := rdk hP hk1
    refine lv_if_eq (tgt := 41) hx hb dX7_addDish_14 (by decide) (fun c_6 => ?_) (fun c_6 => ?_)
    · rw [if_pos c_6] at hR
      refine lv_iconst (v := (0 : Int32)) hx hb dX7_addDish_41 (by decide) ?_
      refine lv_istore (lv' := [(5, .int (0 : Int32)), (0, .ref (aM 0)), (1, .int p1), (2, .int p2), (3, .int p3), (4, .int p4)]) hx hb dX7_addDish_42 hl (by decide) rfl (fun ls hl => ?_)
      refine lv_aload_n hx hb dX7_addDish_44 rfl (lv_at hl 1 rfl) ?_
      refine lv_iload hx hb dX7_addDish_45 (lv_at hl 0 rfl) ?_
      refine lv_if_ne (tgt := 54) hx hb dX7_addDish_47 (by decide) (fun q => absurd (by decide) q) (fun _ => ?_)
      refine lv_iconst (v := (1 : Int32)) hx hb dX7_addDish_50 (by decide) ?_
      refine lv_goto (tgt := 70) hx hb dX7_addDish_51 (by decide) ?_
      refine va_put (D := (dC, dI)) (ci := 7) (v := .int (1 : Int32)) (ty := .int) (C := RX7) (T := TX7) (N := 15) hx hb hts hin7 tyX7 tyX7_ok nmX7 hown hK hP hD hS 0 rfl rfl 7 (by decide) (hw_ hts 2 rfl) (fun _ h9 => h9) rfl (by decide +kernel) rfl rfl (Nat.le_of_ble_eq_true rfl) dX7_addDish_70 (fun H3 locs hP hD hS => ?_)
      have hP : va_P (dC, dI) vwCl (wMo cI aM (pset M 7 (fun _ => (1 : Int32))) hs) H3 := hP
      have hD : va_D A (wMo cI aM (pset M 7 (fun _ => (1 : Int32))) hs) := hD
      refine lv_aload_n hx hb dX7_addDish_73 rfl (lv_at hl 1 rfl) ?_
      refine va_get (D := (dC, dI)) (ci := 7) (v := .int (1 : Int32)) (C := RX7) (T := TX7) (N := 15) hx hb hts hin7 hown hK hP 0 rfl rfl 7 (by decide) (hw_ hts 2 rfl) (fun _ h9 => h9) rfl dX7_addDish_74 ?_
      refine lv_if_le (tgt := 82) hx hb dX7_addDish_77 (by decide) (fun q => absurd q (by decide)) (fun _ => ?_)
      refine lv_iconst (v := (0 : Int32)) hx hb dX7_addDish_80 (by decide) ?_
      exact W.iret (v := (0 : Int32)) hx hb hr (fun t ht hW => ⟨⟨(0 : Int32), (pset M 7 (fun _ => (1 : Int32))), rfl, Option.some.inj hR, P_at ht hP⟩, hS.F ht⟩) hS.2.2 dX7_addDish_81
    · rw [if_neg c_6] at hR
      refine lv_iload_n hx hb dX7_addDish_17 rfl (lv_at hl 3 rfl) ?_
      refine lv_iconst (v := (0 : Int32)) hx hb dX7_addDish_18 (by decide) ?_
      refine lv_iconst (v := (5 : Int32)) hx hb dX7_addDish_19 (by decide) ?_
      refine va_calli (va_runS (As := [.int p3, .int (0 : Int32), .int (5 : Int32)]) (rest := []) ⟨hx, hb, hml, hown, hts⟩ (met_X7_within l dC dI cI cZ cS H2.size p3 (0 : Int32) (5 : Int32)) (va_cwS 3 hts gX7_addDish_X7_within rfl rfl rfl (by decide +kernel) ⟨Nat.le_of_ble_eq_true rfl, Nat.le_of_ble_eq_true rfl⟩) (pS (wc := []) hK hP hD hN [] rfl (by decide)) rfl rfl hl.1 rfl (lv_room (Nat.le_of_ble_eq_true rfl)) dX7_addDish_20 ⟨Nat.zero_le _, Nat.zero_le _⟩) hS (fun q _ h => a0_in hS hA q h) (a0_in hS hA) (fun r7 u t H3 locs ht hvm hw hB hz1 hk1 hS => ?_)
      obtain ⟨hw, nb8⟩ := hw
      subst hw
      have hP := rdk hP hk1
      refine lv_if_eq (tgt := 41) hx hb dX7_addDish_23 (by decide) (fun c_9 => ?_) (fun c_9 => ?_)
      · rw [if_pos c_9] at hR
        refine lv_iconst (v := (0 : Int32)) hx hb dX7_addDish_41 (by decide) ?_
        refine lv_istore (lv' := [(5, .int (0 : Int32)), (0, .ref (aM 0)), (1, .int p1), (2, .int p2), (3, .int p3), (4, .int p4)]) hx hb dX7_addDish_42 hl (by decide) rfl (fun ls hl => ?_)
        refine lv_aload_n hx hb dX7_addDish_44 rfl (lv_at hl 1 rfl) ?_
        refine lv_iload hx hb dX7_addDish_45 (lv_at hl 0 rfl) ?_
        refine lv_if_ne (tgt := 54) hx hb dX7_addDish_47 (by decide) (fun q => absurd (by decide) q) (fun _ => ?_)
        refine lv_iconst (v := (1 : Int32)) hx hb dX7_addDish_50 (by decide) ?_
        refine lv_goto (tgt := 70) hx hb dX7_addDish_51 (by decide) ?_
        refine va_put (D := (dC, dI)) (ci := 7) (v := .int (1 : Int32)) (ty := .int) (C := RX7) (T := TX7) (N := 15) hx hb hts hin7 tyX7 tyX7_ok nmX7 hown hK hP hD hS 0 rfl rfl 7 (by decide) (hw_ hts 2 rfl) (fun _ h9 => h9) rfl (by decide +kernel) rfl rfl (Nat.le_of_ble_eq_true rfl) dX7_addDish_70 (fun H4 locs hP hD hS => ?_)
        have hP : va_P (dC, dI) vwCl (wMo cI aM (pset M 7 (fun _ => (1 : Int32))) hs) H4 := hP
        have hD : va_D A (wMo cI aM (pset M 7 (fun _ => (1 : Int32))) hs) := hD
        refine lv_aload_n hx hb dX7_addDish_73 rfl (lv_at hl 1 rfl) ?_
        refine va_get (D := (dC, dI)) (ci := 7) (v := .int (1 : Int32)) (C := RX7) (T := TX7) (N := 15) hx hb hts hin7 hown hK hP 0 rfl rfl 7 (by decide) (hw_ hts 2 rfl) (fun _ h9 => h9) rfl dX7_addDish_74 ?_
        refine lv_if_le (tgt := 82) hx hb dX7_addDish_77 (by decide) (fun q => absurd q (by decide)) (fun _ => ?_)
        refine lv_iconst (v := (0 : Int32)) hx hb dX7_addDish_80 (by decide) ?_
        exact W.iret (v := (0 : Int32)) hx hb hr (fun t ht hW => ⟨⟨(0 : Int32), (pset M 7 (fun _ => (1 : Int32))), rfl, Option.some.inj hR, P_at ht hP⟩, hS.F ht⟩) hS.2.2 dX7_addDish_81
      · rw [if_neg c_9] at hR
        refine lv_iload hx hb dX7_addDish_26 (lv_at hl 4 rfl) ?_
        refine lv_iconst (v := (1 : Int32)) hx hb dX7_addDish_28 (by decide) ?_
        refine lv_bipush (v := (9 : Int32)) hx hb dX7_addDish_29 (by decide) ?_
        refine va_calli (va_runS (As := [.int p4, .int (1 : Int32), .int (9 : Int32)]) (rest := []) ⟨hx, hb, hml, hown, hts⟩ (met_X7_within l dC dI cI cZ cS H3.size p4 (1 : Int32) (9 : Int32)) (va_cwS 3 hts gX7_addDish_X7_within rfl rfl rfl (by decide +kernel) ⟨Nat.le_of_ble_eq_true rfl, Nat.le_of_ble_eq_true rfl⟩) (pS (wc := []) hK hP hD hN [] rfl (by decide)) rfl rfl hl.1 rfl (lv_room (Nat.le_of_ble_eq_true rfl)) dX7_addDish_31 ⟨Nat.zero_le _, Nat.zero_le _⟩) hS (fun q _ h => a0_in hS hA q h) (a0_in hS hA) (fun r10 u t H4 locs ht hvm hw hB hz1 hk1 hS => ?_)
        obtain ⟨hw, nb11⟩ := hw
        subst hw
        have hP := rdk hP hk1
        refine lv_if_eq (tgt := 41) hx hb dX7_addDish_34 (by decide) (fun c_12 => ?_) (fun c_12 => ?_)
        · rw [if_pos c_12] at hR
          refine lv_iconst (v := (0 : Int32)) hx hb dX7_addDish_41 (by decide) ?_
          refine lv_istore (lv' := [(5, .int (0 : Int32)), (0, .ref (aM 0)), (1, .int p1), (2, .int p2), (3, .int p3), (4, .int p4)]) hx hb dX7_addDish_42 hl (by decide) rfl (fun ls hl => ?_)
          refine lv_aload_n hx hb dX7_addDish_44 rfl (lv_at hl 1 rfl) ?_
          refine lv_iload hx hb dX7_addDish_45 (lv_at hl 0 rfl) ?_
          refine lv_if_ne (tgt := 54) hx hb dX7_addDish_47 (by decide) (fun q => absurd (by decide) q) (fun _ => ?_)
          refine lv_iconst (v := (1 : Int32)) hx hb dX7_addDish_50 (by decide) ?_
          refine lv_goto (tgt := 70) hx hb dX7_addDish_51 (by decide) ?_
          refine va_put (D := (dC, dI)) (ci := 7) (v := .int (1 : Int32)) (ty := .int) (C := RX7) (T := TX7) (N := 15) hx hb hts hin7 tyX7 tyX7_ok nmX7 hown hK hP hD hS 0 rfl rfl 7 (by decide) (hw_ hts 2 rfl) (fun _ h9 => h9) rfl (by decide +kernel) rfl rfl (Nat.le_of_ble_eq_true rfl) dX7_addDish_70 (fun H5 locs hP hD hS => ?_)
          have hP : va_P (dC, dI) vwCl (wMo cI aM (pset M 7 (fun _ => (1 : Int32))) hs) H5 := hP
          have hD : va_D A (wMo cI aM (pset M 7 (fun _ => (1 : Int32))) hs) := hD
          refine lv_aload_n hx hb dX7_addDish_73 rfl (lv_at hl 1 rfl) ?_
          refine va_get (D := (dC, dI)) (ci := 7) (v := .int (1 : Int32)) (C := RX7) (T := TX7) (N := 15) hx hb hts hin7 hown hK hP 0 rfl rfl 7 (by decide) (hw_ hts 2 rfl) (fun _ h9 => h9) rfl dX7_addDish_74 ?_
          refine lv_if_le (tgt := 82) hx hb dX7_addDish_77 (by decide) (fun q => absurd q (by decide)) (fun _ => ?_)
          refine lv_iconst (v := (0 : Int32)) hx hb dX7_addDish_80 (by decide) ?_
          exact W.iret (v := (0 : Int32)) hx hb hr (fun t ht hW => ⟨⟨(0 : Int32), (pset M 7 (fun _ => (1 : Int32))), rfl, Option.some.inj hR, P_at ht hP⟩, hS.F ht⟩) hS.2.2 dX7_addDish_81
        · rw [if_neg c_12] at hR
          refine lv_iconst (v := (1 : Int32)) hx hb dX7_addDish_37 (by decide) ?_
          refine lv_goto (tgt := 42) hx hb dX7_addDish_38 (by decide) ?_
          refine lv_istore (lv' := [(5, .int (1 : Int32)), (0, .ref (aM 0)), (1, .int p1), (2, .int p2), (3, .int p3), (4, .int p4)]) hx hb dX7_addDish_42 hl (by decide) rfl (fun ls hl => ?_)
          refine lv_aload_n hx hb dX7_addDish_44 rfl (lv_at hl 1 rfl) ?_
          refine lv_iload hx hb dX7_addDish_45 (lv_at hl 0 rfl) ?_
          refine lv_if_ne (tgt := 54) hx hb dX7_addDish_47 (by decide) (fun _ => ?_) (fun q => absurd q (by decide))
          refine lv_aload_n hx hb dX7_addDish_54 rfl (lv_at hl 1 rfl) ?_
          refine va_get (D := (dC, dI)) (ci := 7) (v := .ref (aM 1)) (C := RX7) (T := TX7) (N := 15) hx hb hts hin7 hown hK hP 0 rfl rfl 0 (by decide) (hw_ hts 1 rfl) (fun _ h9 => h9) rfl dX7_addDish_55 ?_
          refine lv_iconst (v := (3 : Int32)) hx hb dX7_addDish_58 (by decide) ?_
          refine va_iald (f := (M 0)) hx hb hK hP 1 0 rfl rfl (vp_in_nI (n := 3) (by decide) (by decide)) dX7_addDish_59 ?_
          refine lv_bipush (v := (12 : Int32)) hx hb dX7_addDish_60 (by decide) ?_
          refine lv_icmp_ne (tgt := 69) hx hb dX7_addDish_62 (by decide) (fun c_13 => ?_) (fun c_13 => ?_)
          · rw [if_neg c_13] at hR
            refine lv_iconst (v := (0 : Int32)) hx hb dX7_addDish_69 (by decide) ?_
            refine va_put (D := (dC, dI)) (ci := 7) (v := .int (0 : Int32)) (ty := .int) (C := RX7) (T := TX7) (N := 15) hx hb hts hin7 tyX7 tyX7_ok nmX7 hown hK hP hD hS 0 rfl rfl 7 (by decide) (hw_ hts 2 rfl) (fun _ h9 => h9) rfl (by decide +kernel) rfl rfl (Nat.le_of_ble_eq_true rfl) dX7_addDish_70 (fun H5 locs hP hD hS => ?_)
            have hP : va_P (dC, dI) vwCl (wMo cI aM (pset M 7 (fun _ => (0 : Int32))) hs) H5 := hP
            have hD : va_D A (wMo cI aM (pset M 7 (fun _ => (0 : Int32))) hs) := hD
            refine lv_aload_n hx hb dX7_addDish_73 rfl (lv_at hl 1 rfl) ?_
            refine va_get (D := (dC, dI)) (ci := 7) (v := .int (0 : Int32)) (C := RX7) (T := TX7) (N := 15) hx hb hts hin7 hown hK hP 0 rfl rfl 7 (by decide) (hw_ hts 2 rfl) (fun _ h9 => h9) rfl dX7_addDish_74 ?_
            refine lv_if_le (tgt := 82) hx hb dX7_addDish_77 (by decide) (fun _ => ?_) (fun q => absurd (by decide) q)
            refine lv_aload_n hx hb dX7_addDish_82 rfl (lv_at hl 1 rfl) ?_
            obtain ⟨u14, hc15, hR⟩ := ob1_e hR
            have hF := va_free (wc := wMo cI aM (pset M 7 (fun _ => (0 : Int32))) hs) hD hS hA [0, 1, 2, 3, 4, 5, 6, 7, 8] rfl
            refine va_callv (va_runV (As := []) (rest := []) ⟨hx, hb, hml, hown, hts⟩ (met_X7_save l dC dI cI cZ cS aM (pset M 7 (fun _ => (0 : Int32))) hs H5.size u14 hc15) (cwV 0 hts gX7_addDish_X7_save rfl rfl rfl (by decide +kernel) ⟨Nat.le_of_ble_eq_true rfl, Nat.le_of_ble_eq_true rfl⟩) (pV (wc := wMo cI aM (pset M 7 (fun _ => (0 : Int32))) hs) (ci := 7) (q0 := 0) hK hP hD hN [0, 1, 2, 3, 4, 5, 6, 7, 8] rfl (by decide) rfl rfl) rfl rfl hl.1 rfl (lv_room (Nat.le_of_ble_eq_true rfl)) dX7_addDish_83 ⟨Nat.zero_le _, Nat.zero_le _⟩) hS (fun q _ h => hF q h) hF (fun  u14 t H6 locs ht hvm hw hB hz1 hk1 hS => ?_)
            try dsimp only at hw hB
            rw [ht] at hB
            cases hw
            have hP := wrk (w2 := wMo cI aM u14 hs) hP hD [0, 1, 2, 3, 4, 5, 6, 7, 8] rfl (by decide) hk1 hB rfl rfl
            have hD := D_addr (w1 := wMo cI aM u14 hs) hD rfl
            refine lv_iconst (v := (5 : Int32)) hx hb dX7_addDish_86 (by decide) ?_
            refine lv_bipush (v := (6 : Int32)) hx hb dX7_addDish_87 (by decide) ?_
            refine lv_aload_n hx hb dX7_addDish_89 rfl (lv_at hl 1 rfl) ?_
            refine va_get (D := (dC, dI)) (ci := 7) (v := .ref (aM 1)) (C := RX7) (T := TX7) (N := 15) hx hb hts hin7 hown hK hP 0 rfl rfl 0 (by decide) (hw_ hts 1 rfl) (fun _ h9 => h9) rfl dX7_addDish_90 ?_
            refine lv_iconst (v := (3 : Int32)) hx hb dX7_addDish_93 (by decide) ?_
            refine va_iald (f := (u14 0)) hx hb hK hP 1 0 rfl rfl (vp_in_nI (n := 3) (by decide) (by decide)) dX7_addDish_94 ?_
            refine lv_imul hx hb dX7_addDish_95 ?_
            refine lv_iadd hx hb dX7_addDish_96 ?_
            refine lv_topi (fun v16 hv16 => ?_)
            have hR := bd_n hv16 hR
            refine lv_istore (lv' := [(6, .int v16), (5, .int (1 : Int32)), (0, .ref (aM 0)), (1, .int p1), (2, .int p2), (3, .int p3), (4, .int p4)]) hx hb dX7_addDish_97 hl (by decide) rfl (fun ls hl => ?_)
            refine lv_aload_n hx hb dX7_addDish_99 rfl (lv_at hl 2 rfl) ?_
            refine va_get (D := (dC, dI)) (ci := 7) (v := .ref (aM 1)) (C := RX7) (T := TX7) (N := 15) hx hb hts hin7 hown hK hP 0 rfl rfl 0 (by decide) (hw_ hts 1 rfl) (fun _ h9 => h9) rfl dX7_addDish_100 ?_
            refine lv_iload hx hb dX7_addDish_103 (lv_at hl 0 rfl) ?_
            refine lv_iconst (v := (0 : Int32)) hx hb dX7_addDish_105 (by decide) ?_
            refine lv_iadd hx hb dX7_addDish_106 ?_
            refine lv_iload_n hx hb dX7_addDish_107 rfl (lv_at hl 3 rfl) ?_
            obtain ⟨hix17, hR⟩ := ck_some hR
            refine va_iast (f := (u14 0)) hx hb hK hP hD hS 1 0 rfl rfl hix17 dX7_addDish_108 (fun H7 locs hP hD hS => ?_)
            have hP : va_P (dC, dI) vwCl (wMo cI aM (pset u14 0 (upd (u14 0) (ix (v16 + (0 : Int32))) p1)) hs) H7 := hP
            have hD : va_D A (wMo cI aM (pset u14 0 (upd (u14 0) (ix (v16 + (0 : Int32))) p1)) hs) := hD
            obtain ⟨Mb18, hMb18⟩ : ∃ z : Pic, z = (pset u14 0 (upd (u14 0) (ix (v16 + (0 : Int32))) p1)) := ⟨_, rfl⟩
            rw [← hMb18] at hP hD
            have hR := bd_n hMb18 hR
            refine lv_aload_n hx hb dX7_addDish_109 rfl (lv_at hl 2 rfl) ?_
            refine va_get (D := (dC, dI)) (ci := 7) (v := .ref (aM 1)) (C := RX7) (T := TX7) (N := 15) hx hb hts hin7 hown hK hP 0 rfl rfl 0 (by decide) (hw_ hts 1 rfl) (fun _ h9 => h9) rfl dX7_addDish_110 ?_
            refine lv_iload hx hb dX7_addDish_113 (lv_at hl 0 rfl) ?_
            refine lv_iconst (v := (1 : Int32)) hx hb dX7_addDish_115 (by decide) ?_
            refine lv_iadd hx hb dX7_addDish_116 ?_
            refine lv_iload_n hx hb dX7_addDish_117 rfl (lv_at hl 4 rfl) ?_
            obtain ⟨hix19, hR⟩ := ck_some hR
            refine va_iast (f := (Mb18 0)) hx hb hK hP hD hS 1 0 rfl rfl hix19 dX7_addDish_118 (fun H8 locs hP hD hS => ?_)
            have hP : va_P (dC, dI) vwCl (wMo cI aM (pset Mb18 0 (upd (Mb18 0) (ix (v16 + (1 : Int32))) p2)) hs) H8 := hP
            have hD : va_D A (wMo cI aM (pset Mb18 0 (upd (Mb18 0) (ix (v16 + (1 : Int32))) p2)) hs) := hD
            obtain ⟨Mb20, hMb20⟩ : ∃ z : Pic, z = (pset Mb18 0 (upd (Mb18 0) (ix (v16 + (1 : Int32))) p2)) := ⟨_, rfl⟩
            rw [← hMb20] at hP hD
            have hR := bd_n hMb20 hR
            refine lv_aload_n hx hb dX7_addDish_119 rfl (lv_at hl 2 rfl) ?_
            refine va_get (D := (dC, dI)) (ci := 7) (v := .ref (aM 1)) (C := RX7) (T := TX7) (N := 15) hx hb hts hin7 hown hK hP 0 rfl rfl 0 (by decide) (hw_ hts 1 rfl) (fun _ h9 => h9) rfl dX7_addDish_120 ?_
            refine lv_iload hx hb dX7_addDish_123 (lv_at hl 0 rfl) ?_
            refine lv_iconst (v := (2 : Int32)) hx hb dX7_addDish_125 (by decide) ?_
            refine lv_iadd hx hb dX7_addDish_126 ?_
            refine lv_iload_n hx hb dX7_addDish_127 rfl (lv_at hl 5 rfl) ?_
            obtain ⟨hix21, hR⟩ := ck_some hR
            refine va_iast (f := (Mb20 0)) hx hb hK hP hD hS 1 0 rfl rfl hix21 dX7_addDish_128 (fun H9 locs hP hD hS => ?_)
            have hP : va_P (dC, dI) vwCl (wMo cI aM (pset Mb20 0 (upd (Mb20 0) (ix (v16 + (2 : Int32))) p3)) hs) H9 := hP
            have hD : va_D A (wMo cI aM (pset Mb20 0 (upd (Mb20 0) (ix (v16 + (2 : Int32))) p3)) hs) := hD
            obtain ⟨Mb22, hMb22⟩ : ∃ z : Pic, z = (pset Mb20 0 (upd (Mb20 0) (ix (v16 + (2 : Int32))) p3)) := ⟨_, rfl⟩
            rw [← hMb22] at hP hD
            have hR := bd_n hMb22 hR
            refine lv_aload_n hx hb dX7_addDish_129 rfl (lv_at hl 2 rfl) ?_
            refine va_get (D := (dC, dI)) (ci := 7) (v := .ref (aM 1)) (C := RX7) (T := TX7) (N := 15) hx hb hts hin7 hown hK hP 0 rfl rfl 0 (by decide) (hw_ hts 1 rfl) (fun _ h9 => h9) rfl dX7_addDish_130 ?_
            refine lv_iload hx hb dX7_addDish_133 (lv_at hl 0 rfl) ?_
            refine lv_iconst (v := (3 : Int32)) hx hb dX7_addDish_135 (by decide) ?_
            refine lv_iadd hx hb dX7_addDish_136 ?_
            refine lv_iload hx hb dX7_addDish_137 (lv_at hl 6 rfl) ?_
            obtain ⟨hix23, hR⟩ := ck_some hR
            refine va_iast (f := (Mb22 0)) hx hb hK hP hD hS 1 0 rfl rfl hix23 dX7_addDish_139 (fun H10 locs hP hD hS => ?_)
            have hP : va_P (dC, dI) vwCl (wMo cI aM (pset Mb22 0 (upd (Mb22 0) (ix (v16 + (3 : Int32))) p4)) hs) H10 := hP
            have hD : va_D A (wMo cI aM (pset Mb22 0 (upd (Mb22 0) (ix (v16 + (3 : Int32))) p4)) hs) := hD
            obtain ⟨Mb24, hMb24⟩ : ∃ z : Pic, z = (pset Mb22 0 (upd (Mb22 0) (ix (v16 + (3 : Int32))) p4)) := ⟨_, rfl⟩
            rw [← hMb24] at hP hD
            have hR := bd_n hMb24 hR
            refine lv_aload_n hx hb dX7_addDish_140 rfl (lv_at hl 2 rfl) ?_
            refine va_get (D := (dC, dI)) (ci := 7) (v := .ref (aM 1)) (C := RX7) (T := TX7) (N := 15) hx hb hts hin7 hown hK hP 0 rfl rfl 0 (by decide) (hw_ hts 1 rfl) (fun _ h9 => h9) rfl dX7_addDish_141 ?_
            refine lv_iload hx hb dX7_addDish_144 (lv_at hl 0 rfl) ?_
            refine lv_iconst (v := (4 : Int32)) hx hb dX7_addDish_146 (by decide) ?_
            refine lv_iadd hx hb dX7_addDish_147 ?_
            refine lv_iconst (v := (-1 : Int32)) hx hb dX7_addDish_148 (by decide) ?_
            obtain ⟨hix25, hR⟩ := ck_some hR
            refine va_iast (f := (Mb24 0)) hx hb hK hP hD hS 1 0 rfl rfl hix25 dX7_addDish_149 (fun H11 locs hP hD hS => ?_)
            have hP : va_P (dC, dI) vwCl (wMo cI aM (pset Mb24 0 (upd (Mb24 0) (ix (v16 + (4 : Int32))) (-1 : Int32))) hs) H11 := hP
            have hD : va_D A (wMo cI aM (pset Mb24 0 (upd (Mb24 0) (ix (v16 + (4 : Int32))) (-1 : Int32))) hs) := hD
            obtain ⟨Mb26, hMb26⟩ : ∃ z : Pic, z = (pset Mb24 0 (upd (Mb24 0) (ix (v16 + (4 : Int32))) (-1 : Int32))) := ⟨_, rfl⟩
            rw [← hMb26] at hP hD
            have hR := bd_n hMb26 hR
            refine lv_aload_n hx hb dX7_addDish_150 rfl (lv_at hl 2 rfl) ?_
            refine va_get (D := (dC, dI)) (ci := 7) (v := .ref (aM 1)) (C := RX7) (T := TX7) (N := 15) hx hb hts hin7 hown hK hP 0 rfl rfl 0 (by decide) (hw_ hts 1 rfl) (fun _ h9 => h9) rfl dX7_addDish_151 ?_
            refine lv_iload hx hb dX7_addDish_154 (lv_at hl 0 rfl) ?_
            refine lv_iconst (v := (5 : Int32)) hx hb dX7_addDish_156 (by decide) ?_
            refine lv_iadd hx hb dX7_addDish_157 ?_
            refine lv_iconst (v := (0 : Int32)) hx hb dX7_addDish_158 (by decide) ?_
            obtain ⟨hix27, hR⟩ := ck_some hR
            refine va_iast (f := (Mb26 0)) hx hb hK hP hD hS 1 0 rfl rfl hix27 dX7_addDish_159 (fun H12 locs hP hD hS => ?_)
            have hP : va_P (dC, dI) vwCl (wMo cI aM (pset Mb26 0 (upd (Mb26 0) (ix (v16 + (5 : Int32))) (0 : Int32))) hs) H12 := hP
            have hD : va_D A (wMo cI aM (pset Mb26 0 (upd (Mb26 0) (ix (v16 + (5 : Int32))) (0 : Int32))) hs) := hD
            obtain ⟨Mb28, hMb28⟩ : ∃ z : Pic, z = (pset Mb26 0 (upd (Mb26 0) (ix (v16 + (5 : Int32))) (0 : Int32))) := ⟨_, rfl⟩
            rw [← hMb28] at hP hD
            have hR := bd_n hMb28 hR
            refine lv_aload_n hx hb dX7_addDish_160 rfl (lv_at hl 2 rfl) ?_
            refine va_get (D := (dC, dI)) (ci := 7) (v := .ref (aM 1)) (C := RX7) (T := TX7) (N := 15) hx hb hts hin7 hown hK hP 0 rfl rfl 0 (by decide) (hw_ hts 1 rfl) (fun _ h9 => h9) rfl dX7_addDish_161 ?_
            refine lv_iconst (v := (3 : Int32)) hx hb dX7_addDish_164 (by decide) ?_
            refine lv_dup2_11 hx hb dX7_addDish_165 rfl rfl ?_
            refine va_iald (f := (Mb28 0)) hx hb hK hP 1 0 rfl rfl (vp_in_nI (n := 3) (by decide) (by decide)) dX7_addDish_166 ?_
            refine lv_iconst (v := (1 : Int32)) hx hb dX7_addDish_167 (by decide) ?_
            refine lv_iadd hx hb dX7_addDish_168 ?_
            refine va_iast (f := (Mb28 0)) hx hb hK hP hD hS 1 0 rfl rfl (vp_in_nI (n := 3) (by decide) (by decide)) dX7_addDish_169 (fun H13 locs hP hD hS => ?_)
            have hP : va_P (dC, dI) vwCl (wMo cI aM (pset Mb28 0 (upd (Mb28 0) (ix (3 : Int32)) (((Mb28 0) (ix (3 : Int32))) + (1 : Int32)))) hs) H13 := hP
            have hD : va_D A (wMo cI aM (pset Mb28 0 (upd (Mb28 0) (ix (3 : Int32)) (((Mb28 0) (ix (3 : Int32))) + (1 : Int32)))) hs) := hD
            obtain ⟨Mb29, hMb29⟩ : ∃ z : Pic, z = (pset Mb28 0 (upd (Mb28 0) (ix (3 : Int32)) (((Mb28 0) (ix (3 : Int32))) + (1 : Int32)))) := ⟨_, rfl⟩
            rw [← hMb29] at hP hD
            have hR := bd_n hMb29 hR
            refine lv_aload_n hx hb dX7_addDish_170 rfl (lv_at hl 2 rfl) ?_
            refine va_get (D := (dC, dI)) (ci := 7) (v := .ref (aM 1)) (C := RX7) (T := TX7) (N := 15) hx hb hts hin7 hown hK hP 0 rfl rfl 0 (by decide) (hw_ hts 1 rfl) (fun _ h9 => h9) rfl dX7_addDish_171 ?_
            refine lv_iconst (v := (3 : Int32)) hx hb dX7_addDish_174 (by decide) ?_
            refine va_iald (f := (Mb29 0)) hx hb hK hP 1 0 rfl rfl (vp_in_nI (n := 3) (by decide) (by decide)) dX7_addDish_175 ?_
            refine lv_iconst (v := (1 : Int32)) hx hb dX7_addDish_176 (by decide) ?_
            refine lv_isub hx hb dX7_addDish_177 ?_
            exact W.iret (v := (((Mb29 0) (ix (3 : Int32))) - (1 : Int32))) hx hb hr (fun t ht hW => ⟨⟨(((Mb29 0) (ix (3 : Int32))) - (1 : Int32)), Mb29, rfl, Option.some.inj hR, P_at ht hP⟩, hS.F ht⟩) hS.2.2 dX7_addDish_178
          · rw [if_pos c_13] at hR
            refine lv_iconst (v := (2 : Int32)) hx hb dX7_addDish_65 (by decide) ?_
            refine lv_goto (tgt := 70) hx hb dX7_addDish_66 (by decide) ?_
            refine va_put (D := (dC, dI)) (ci := 7) (v := .int (2 : Int32)) (ty := .int) (C := RX7) (T := TX7) (N := 15) hx hb hts hin7 tyX7 tyX7_ok nmX7 hown hK hP hD hS 0 rfl rfl 7 (by decide) (hw_ hts 2 rfl) (fun _ h9 => h9) rfl (by decide +kernel) rfl rfl (Nat.le_of_ble_eq_true rfl) dX7_addDish_70 (fun H5 locs hP hD hS => ?_)
            have hP : va_P (dC, dI) vwCl (wMo cI aM (pset M 7 (fun _ => (2 : Int32))) hs) H5 := hP
            have hD : va_D A (wMo cI aM (pset M 7 (fun _ => (2 : Int32))) hs) := hD
            refine lv_aload_n hx hb dX7_addDish_73 rfl (lv_at hl 1 rfl) ?_
            refine va_get (D := (dC, dI)) (ci := 7) (v := .int (2 : Int32)) (C := RX7) (T := TX7) (N := 15) hx hb hts hin7 hown hK hP 0 rfl rfl 7 (by decide) (hw_ hts 2 rfl) (fun _ h9 => h9) rfl dX7_addDish_74 ?_
            refine lv_if_le (tgt := 82) hx hb dX7_addDish_77 (by decide) (fun q => absurd q (by decide)) (fun _ => ?_)
            refine lv_iconst (v := (0 : Int32)) hx hb dX7_addDish_80 (by decide) ?_
            exact W.iret (v := (0 : Int32)) hx hb hr (fun t ht hW => ⟨⟨(0 : Int32), (pset M 7 (fun _ => (2 : Int32))), rfl, Option.some.inj hR, P_at ht hP⟩, hS.F ht⟩) hS.2.2 dX7_addDish_81
abbrev rm_X7_setLeft : Room := { frames := 0, cells := 0, slots := 0, locals := 0 }
abbrev q_X7_setLeft (dC : Nat → ClassId) (dI : Nat → Nat → Nat) (cI cZ cS : ClassId) (aM : Nat → Nat) (hs : Int64) (res : Pic) (A : Nat → Prop) : Array Value → State → Outcome → State → Prop := va_Qv (fun (u : Pic) => u = res) (fun u t => va_P (dC, dI) vwCl (wMo cI aM u hs) t.heap) A
set_option maxHeartbeats 4000000 in
set_option maxRecDepth 100000 in
theorem met_X7_setLeft (l : Launch) (dC : Nat → ClassId) (dI : Nat → Nat → Nat) (cI cZ cS : ClassId) (aM : Nat → Nat) (M : Pic) (hs : Int64) (sz : Nat) (p1 : Int32) (p2 : Int32) (p3 : Int32) (res : Pic) (hR : f7_setLeft M p1 p2 p3 = some res) : Met l yX7_setLeft wsX7_setLeft rm_X7_setLeft (va_Pc [.ref (aM 0), .int p1, .int p2, .int p3] (pW (dC, dI) (tyS cI cZ cS) (wMo cI aM M hs) sz)) (q_X7_setLeft dC dI cI cZ cS aM hs res (va_A (wMo cI aM M hs) sz)) 0 0 (va_A (wMo cI aM M hs) sz) := by
  refine Met.ofW (cc := cX7_setLeft) (maxL := 4) (ret := none) (by decide) rfl ?_
  intro p e s m args below meth c s₁ B hml hv
  obtain ⟨rfl, hsz, hP, hK, hD0, hN⟩ := hv
  have hx := B.exec
  have hb := B.bytes
  have hr := B.returns
  have hts := atoms_spec (ws := wsX7_setLeft) B.pre
  have hown : s.vm.findClass RX7 = some m.cls := findClass_of_methodNamed B.named
  have hlocks := B.notSynchronized
  subst hsz
  have hD := hD0.self (sz := s.heap.size)
  generalize hAe : va_A (wMo cI aM M hs) s.heap.size = A at hD ⊢
  have hA : ∀ q : Nat, s.heap.size ≤ q → A q := fun q h => by rw [← hAe]; exact Or.inr h
  have hS : va_S A s.heap s.heap [] := va_S.rf
  have hP : va_P (dC, dI) vwCl (wMo cI aM M hs) s.heap := hP
  rw [f7_setLeft] at hR
  have hin7 : ∀ w ∈ wsX70, w ∈ wsX7_setLeft := by decide +kernel
  have hl := lv_entry ([.ref (aM 0), .int p1, .int p2, .int p3]) (n := 4) (Nat.le_of_ble_eq_true rfl)
  rw [lg_entry_eq]
  generalize (lg_sl ([.ref (aM 0), .int p1, .int p2, .int p3]) ++ List.replicate (4 - (lg_sl ([.ref (aM 0), .int p1, .int p2, .int p3])).length) Slot.unset).toArray = ls at hl ⊢
  have hl : lv_has ls 4 [(0, .ref (aM 0)), (1, .int p1), (2, .int p2), (3, .int p3)] := hl
  refine lv_aload_n hx hb dX7_setLeft_0 rfl (lv_at hl 0 rfl) ?_
  refine va_get (D := (dC, dI)) (ci := 7) (v := .ref (aM 1)) (C := RX7) (T := TX7) (N := 15) hx hb hts hin7 hown hK hP 0 rfl rfl 0 (by decide) (hw_ hts 1 rfl) (fun _ h9 => h9) rfl dX7_setLeft_1 ?_
  refine lv_iconst (v := (5 : Int32)) hx hb dX7_setLeft_4 (by decide) ?_
  refine lv_bipush (v := (6 : Int32)) hx hb dX7_setLeft_5 (by decide) ?_
  refine lv_iload_n hx hb dX7_setLeft_7 rfl (lv_at hl 1 rfl) ?_
  refine lv_imul hx hb dX7_setLeft_8 ?_
  refine lv_iadd hx hb dX7_setLeft_9 ?_
  refine lv_iconst (v := (4 : Int32)) hx hb dX7_setLeft_10 (by decide) ?_
  refine lv_iadd hx hb dX7_setLeft_11 ?_
  refine lv_iload_n hx hb dX7_setLeft_12 rfl (lv_at hl 2 rfl) ?_
  obtain ⟨hix1, hR⟩ := ck_some hR
  refine va_iast (f := (M 0)) hx hb hK hP hD hS 1 0 rfl rfl hix1 dX7_setLeft_13 (fun H1 locs hP hD hS => ?_)
  have hP : va_P (dC, dI) vwCl (wMo cI aM (pset M 0 (upd (M 0) (ix (((5 : Int32) + ((6 : Int32) * p1)) + (4 : Int32))) p2)) hs) H1 := hP
  have hD : va_D A (wMo cI aM (pset M 0 (upd (M 0) (ix (((5 : Int32) + ((6 : Int32) * p1)) + (4 : Int32))) p2)) hs) := hD
  obtain ⟨Mb2, hMb2⟩ : ∃ z : Pic, z = (pset M 0 (upd (M 0) (ix (((5 : Int32) + ((6 : Int32) * p1)) + (4 : Int32))) p2)) := ⟨_, rfl⟩
  rw [← hMb2] at hP hD
  have hR := bd_n hMb2 hR
  refine lv_aload_n hx hb dX7_setLeft_14 rfl (lv_at hl 0 rfl) ?_
  refine va_get (D := (dC, dI)) (ci := 7) (v := .ref (aM 1)) (C := RX7) (T := TX7) (N := 15) hx hb hts hin7 hown hK hP 0 rfl rfl 0 (by decide) (hw_ hts 1 rfl) (fun _ h9 => h9) rfl dX7_setLeft_15 ?_
  refine lv_iconst (v := (5 : Int32)) hx hb dX7_setLeft_18 (by decide) ?_
  refine lv_bipush (v := (6 : Int32)) hx hb dX7_setLeft_19 (by decide) ?_
  refine lv_iload_n hx hb dX7_setLeft_21 rfl (lv_at hl 1 rfl) ?_
  refine lv_imul hx hb dX7_setLeft_22 ?_
  refine lv_iadd hx hb dX7_setLeft_23 ?_
  refine lv_iconst (v := (5 : Int32)) hx hb dX7_setLeft_24 (by decide) ?_
  refine lv_iadd hx hb dX7_setLeft_25 ?_
  refine lv_iload_n hx hb dX7_setLeft_26 rfl (lv_at hl 2 rfl) ?_
  refine lv_iconst (v := (-1 : Int32)) hx hb dX7_setLeft_27 (by decide) ?_
  refine lv_icmp_ne (tgt := 35) hx hb dX7_setLeft_28 (by decide) (fun c_3 => ?_) (fun c_3 => ?_)
  · rw [if_neg c_3] at hR
    refine lv_iload_n hx hb dX7_setLeft_35 rfl (lv_at hl 3 rfl) ?_
    obtain ⟨hix4, hR⟩ := ck_some hR
    refine va_iast (f := (Mb2 0)) hx hb hK hP hD hS 1 0 rfl rfl hix4 dX7_setLeft_36 (fun H2 locs hP hD hS => ?_)
    have hP : va_P (dC, dI) vwCl (wMo cI aM (pset Mb2 0 (upd (Mb2 0) (ix (((5 : Int32) + ((6 : Int32) * p1)) + (5 : Int32))) p3)) hs) H2 := hP
    have hD : va_D A (wMo cI aM (pset Mb2 0 (upd (Mb2 0) (ix (((5 : Int32) + ((6 : Int32) * p1)) + (5 : Int32))) p3)) hs) := hD
    obtain ⟨Mb5, hMb5⟩ : ∃ z : Pic, z = (pset Mb2 0 (upd (Mb2 0) (ix (((5 : Int32) + ((6 : Int32) * p1)) + (5 : Int32))) p3)) := ⟨_, rfl⟩
    rw [← hMb5] at hP hD
    have hR := bd_n hMb5 hR
    exact W.vret hx hb hr (fun t ht hW => ⟨⟨Mb5, rfl, Option.some.inj hR, P_at ht hP⟩, hS.F ht⟩) hS.2.2 dX7_setLeft_37
  · rw [if_pos c_3] at hR
    refine lv_iconst (v := (0 : Int32)) hx hb dX7_setLeft_31 (by decide) ?_
    refine lv_goto (tgt := 36) hx hb dX7_setLeft_32 (by decide) ?_
    obtain ⟨hix6, hR⟩ := ck_some hR
    refine va_iast (f := (Mb2 0)) hx hb hK hP hD hS 1 0 rfl rfl hix6 dX7_setLeft_36 (fun H2 locs hP hD hS => ?_)
    have hP : va_P (dC, dI) vwCl (wMo cI aM (pset Mb2 0 (upd (Mb2 0) (ix (((5 : Int32) + ((6 : Int32) * p1)) + (5 : Int32))) (0 : Int32))) hs) H2 := hP
    have hD : va_D A (wMo cI aM (pset Mb2 0 (upd (Mb2 0) (ix (((5 : Int32) + ((6 : Int32) * p1)) + (5 : Int32))) (0 : Int32))) hs) := hD
    obtain ⟨Mb7, hMb7⟩ : ∃ z : Pic, z = (pset Mb2 0 (upd (Mb2 0) (ix (((5 : Int32) + ((6 : Int32) * p1)) + (5 : Int32))) (0 : Int32))) := ⟨_, rfl⟩
    rw [← hMb7] at hP hD
    have hR := bd_n hMb7 hR
    exact W.vret hx hb hr (fun t ht hW => ⟨⟨Mb7, rfl, Option.some.inj hR, P_at ht hP⟩, hS.F ht⟩) hS.2.2 dX7_setLeft_37
abbrev rm_X7_soundThen : Room := { frames := 5, cells := 0, slots := 0, locals := 114 }
abbrev q_X7_soundThen (dC : Nat → ClassId) (dI : Nat → Nat → Nat) (cI cZ cS : ClassId) (aM : Nat → Nat) (hs : Int64) (res : Int32 × Pic) (A : Nat → Prop) : Array Value → State → Outcome → State → Prop := va_Qi (fun (r : Int32) (u : Pic) => (r, u) = res ∧ narrow .boolean (.int r) = .int r) (fun u t => va_P (dC, dI) vwCl (wMo cI aM u hs) t.heap) A
set_option maxHeartbeats 4000000 in
set_option maxRecDepth 100000 in
theorem met_X7_soundThen (l : Launch) (dC : Nat → ClassId) (dI : Nat → Nat → Nat) (cI cZ cS : ClassId) (aM : Nat → Nat) (M : Pic) (hs : Int64) (sz : Nat) (p1 : Int32) (p2 : Int32) (p3 : Int32) (res : Int32 × Pic) (hR : f7_soundThen M p1 p2 p3 = some res) : Met l yX7_soundThen wsX7_soundThen rm_X7_soundThen (va_Pc [.ref (aM 0), .int p1, .int p2, .int p3] (pW (dC, dI) (tyS cI cZ cS) (wMo cI aM M hs) sz)) (q_X7_soundThen dC dI cI cZ cS aM hs res (va_A (wMo cI aM M hs) sz)) 0 0 (va_A (wMo cI aM M hs) sz) := by
  refine Met.ofW (cc := cX7_soundThen) (maxL := 7) (ret := (some .boolean)) (by decide) rfl ?_
  intro p e s m args below meth c s₁ B hml hv
  obtain ⟨rfl, hsz, hP, hK, hD0, hN⟩ := hv
  have hx := B.exec
  have hb := B.bytes
  have hr := B.returns
  have hts := atoms_spec (ws := wsX7_soundThen) B.pre
  have hown : s.vm.findClass RX7 = some m.cls := findClass_of_methodNamed B.named
  have hlocks := B.notSynchronized
  subst hsz
  have hD := hD0.self (sz := s.heap.size)
  generalize hAe : va_A (wMo cI aM M hs) s.heap.size = A at hD ⊢
  have hA : ∀ q : Nat, s.heap.size ≤ q → A q := fun q h => by rw [← hAe]; exact Or.inr h
  have hS : va_S A s.heap s.heap [] := va_S.rf
  have hP : va_P (dC, dI) vwCl (wMo cI aM M hs) s.heap := hP
  rw [f7_soundThen] at hR
  have hl := lv_entry ([.ref (aM 0), .int p1, .int p2, .int p3]) (n := 7) (Nat.le_of_ble_eq_true rfl)
  rw [lg_entry_eq]
  generalize (lg_sl ([.ref (aM 0), .int p1, .int p2, .int p3]) ++ List.replicate (7 - (lg_sl ([.ref (aM 0), .int p1, .int p2, .int p3])).length) Slot.unset).toArray = ls at hl ⊢
  have hl : lv_has ls 7 [(0, .ref (aM 0)), (1, .int p1), (2, .int p2), (3, .int p3)] := hl
  refine lv_aload_n hx hb dX7_soundThen_0 rfl (lv_at hl 0 rfl) ?_
  refine lv_iload_n hx hb dX7_soundThen_1 rfl (lv_at hl 1 rfl) ?_
  refine lv_iconst (v := (4 : Int32)) hx hb dX7_soundThen_2 (by decide) ?_
  obtain ⟨r1, hc2, hR⟩ := ob1_e hR
  refine va_calli (va_runV (As := [.int p1, .int (4 : Int32)]) (rest := []) ⟨hx, hb, hml, hown, hts⟩ (met_X7_of l dC dI cI cZ cS aM M hs s.heap.size p1 (4 : Int32) r1 hc2) (cwV 2 hts gX7_soundThen_X7_of rfl rfl rfl (by decide +kernel) ⟨Nat.le_of_ble_eq_true rfl, Nat.le_of_ble_eq_true rfl⟩) (pV (wc := wMo cI aM M hs) (ci := 7) (q0 := 0) hK hP hD hN [0, 1, 2, 3, 4, 5, 6, 7, 8] rfl (by decide) rfl rfl) rfl rfl hl.1 rfl (lv_room (Nat.le_of_ble_eq_true rfl)) dX7_soundThen_3 ⟨Nat.zero_le _, Nat.zero_le _⟩) hS (fun q _ h => a0_in hS hA q h) (a0_in hS hA) (fun r1 u t H1 locs ht hvm hw hB hz1 hk1 hS => ?_)
  cases hw
  have hP := rdk hP hk1
  refine lv_istore (lv' := [(4, .int r1), (0, .ref (aM 0)), (1, .int p1), (2, .int p2), (3, .int p3)]) hx hb dX7_soundThen_6 hl (by decide) rfl (fun ls hl => ?_)
  refine lv_aload_n hx hb dX7_soundThen_8 rfl (lv_at hl 1 rfl) ?_
  refine lv_iload_n hx hb dX7_soundThen_9 rfl (lv_at hl 2 rfl) ?_
  refine lv_iconst (v := (5 : Int32)) hx hb dX7_soundThen_10 (by decide) ?_
  obtain ⟨r3, hc4, hR⟩ := ob1_e hR
  refine va_calli (va_runV (As := [.int p1, .int (5 : Int32)]) (rest := []) ⟨hx, hb, hml, hown, hts⟩ (met_X7_of l dC dI cI cZ cS aM M hs H1.size p1 (5 : Int32) r3 hc4) (cwV 2 hts gX7_soundThen_X7_of rfl rfl rfl (by decide +kernel) ⟨Nat.le_of_ble_eq_true rfl, Nat.le_of_ble_eq_true rfl⟩) (pV (wc := wMo cI aM M hs) (ci := 7) (q0 := 0) hK hP hD hN [0, 1, 2, 3, 4, 5, 6, 7, 8] rfl (by decide) rfl rfl) rfl rfl hl.1 rfl (lv_room (Nat.le_of_ble_eq_true rfl)) dX7_soundThen_11 ⟨Nat.zero_le _, Nat.zero_le _⟩) hS (fun q _ h => a0_in hS hA q h) (a0_in hS hA) (fun r3 u t H2 locs ht hvm hw hB hz1 hk1 hS => ?_)
  cases hw
  have hP := rdk hP hk1
  refine lv_istore (lv' := [(5, .int r3), (4, .int r1), (0, .ref (aM 0)), (1, .int p1), (2, .int p2), (3, .int p3)]) hx hb dX7_soundThen_14 hl (by decide) rfl (fun ls hl => ?_)
  refine lv_aload_n hx hb dX7_soundThen_16 rfl (lv_at hl 2 rfl) ?_
  refine lv_iload_n hx hb dX7_soundThen_17 rfl (lv_at hl 3 rfl) ?_
  refine lv_iload_n hx hb dX7_soundThen_18 rfl (lv_at hl 4 rfl) ?_
  refine lv_iload_n hx hb dX7_soundThen_19 rfl (lv_at hl 5 rfl) ?_
  obtain ⟨u5, hc6, hR⟩ := ob1_e hR
  have hF := va_free (wc := wMo cI aM M hs) hD hS hA [0, 1, 2, 3, 4, 5, 6, 7, 8] rfl
  refine va_callv (va_runV (As := [.int p1, .int p2, .int p3]) (rest := []) ⟨hx, hb, hml, hown, hts⟩ (met_X7_setLeft l dC dI cI cZ cS aM M hs H2.size p1 p2 p3 u5 hc6) (cwV 3 hts gX7_soundThen_X7_setLeft rfl rfl rfl (by decide +kernel) ⟨Nat.le_of_ble_eq_true rfl, Nat.le_of_ble_eq_true rfl⟩) (pV (wc := wMo cI aM M hs) (ci := 7) (q0 := 0) hK hP hD hN [0, 1, 2, 3, 4, 5, 6, 7, 8] rfl (by decide) rfl rfl) rfl rfl hl.1 rfl (lv_room (Nat.le_of_ble_eq_true rfl)) dX7_soundThen_20 ⟨Nat.zero_le _, Nat.zero_le _⟩) hS (fun q _ h => hF q h) hF (fun  u5 t H3 locs ht hvm hw hB hz1 hk1 hS => ?_)
  try dsimp only at hw hB
  rw [ht] at hB
  cases hw
  have hP := wrk (w2 := wMo cI aM u5 hs) hP hD [0, 1, 2, 3, 4, 5, 6, 7, 8] rfl (by decide) hk1 hB rfl rfl
  have hD := D_addr (w1 := wMo cI aM u5 hs) hD rfl
  refine lv_aload_n hx hb dX7_soundThen_23 rfl (lv_at hl 2 rfl) ?_
  obtain ⟨r7, u8, hc9, hR⟩ := ob2_e hR
  have hF := va_free (wc := wMo cI aM u5 hs) hD hS hA [0, 1, 2, 3, 4, 5, 6, 7, 8] rfl
  refine va_calli (va_runV (As := []) (rest := []) ⟨hx, hb, hml, hown, hts⟩ (met_X7_match l dC dI cI cZ cS aM u5 hs H3.size (r7, u8) hc9) (cwV 0 hts gX7_soundThen_X7_match rfl rfl rfl (by decide +kernel) ⟨Nat.le_of_ble_eq_true rfl, Nat.le_of_ble_eq_true rfl⟩) (pV (wc := wMo cI aM u5 hs) (ci := 7) (q0 := 0) hK hP hD hN [0, 1, 2, 3, 4, 5, 6, 7, 8] rfl (by decide) rfl rfl) rfl rfl hl.1 rfl (lv_room (Nat.le_of_ble_eq_true rfl)) dX7_soundThen_24 ⟨Nat.zero_le _, Nat.zero_le _⟩) hS (fun q _ h => hF q h) hF (fun r7 u8 t H4 locs ht hvm hw hB hz1 hk1 hS => ?_)
  obtain ⟨hw, nb10⟩ := hw
  try dsimp only at hw hB
  rw [ht] at hB
  cases hw
  have hP := wrk (w2 := wMo cI aM u8 hs) hP hD [0, 1, 2, 3, 4, 5, 6, 7, 8] rfl (by decide) hk1 hB rfl rfl
  have hD := D_addr (w1 := wMo cI aM u8 hs) hD rfl
  refine lv_istore (lv' := [(6, .int r7), (5, .int r3), (4, .int r1), (0, .ref (aM 0)), (1, .int p1), (2, .int p2), (3, .int p3)]) hx hb dX7_soundThen_27 hl (by decide) rfl (fun ls hl => ?_)
  refine lv_aload_n hx hb dX7_soundThen_29 rfl (lv_at hl 3 rfl) ?_
  refine lv_iload_n hx hb dX7_soundThen_30 rfl (lv_at hl 4 rfl) ?_
  refine lv_iload hx hb dX7_soundThen_31 (lv_at hl 2 rfl) ?_
  refine lv_iload hx hb dX7_soundThen_33 (lv_at hl 1 rfl) ?_
  obtain ⟨u11, hc12, hR⟩ := ob1_e hR
  have hF := va_free (wc := wMo cI aM u8 hs) hD hS hA [0, 1, 2, 3, 4, 5, 6, 7, 8] rfl
  refine va_callv (va_runV (As := [.int p1, .int r1, .int r3]) (rest := []) ⟨hx, hb, hml, hown, hts⟩ (met_X7_setLeft l dC dI cI cZ cS aM u8 hs H4.size p1 r1 r3 u11 hc12) (cwV 3 hts gX7_soundThen_X7_setLeft rfl rfl rfl (by decide +kernel) ⟨Nat.le_of_ble_eq_true rfl, Nat.le_of_ble_eq_true rfl⟩) (pV (wc := wMo cI aM u8 hs) (ci := 7) (q0 := 0) hK hP hD hN [0, 1, 2, 3, 4, 5, 6, 7, 8] rfl (by decide) rfl rfl) rfl rfl hl.1 rfl (lv_room (Nat.le_of_ble_eq_true rfl)) dX7_soundThen_35 ⟨Nat.zero_le _, Nat.zero_le _⟩) hS (fun q _ h => hF q h) hF (fun  u11 t H5 locs ht hvm hw hB hz1 hk1 hS => ?_)
  try dsimp only at hw hB
  rw [ht] at hB
  cases hw
  have hP := wrk (w2 := wMo cI aM u11 hs) hP hD [0, 1, 2, 3, 4, 5, 6, 7, 8] rfl (by decide) hk1 hB rfl rfl
  have hD := D_addr (w1 := wMo cI aM u11 hs) hD rfl
  refine lv_iload hx hb dX7_soundThen_38 (lv_at hl 0 rfl) ?_
  exact W.zret (v := r7) (ty := .boolean) hx hb hr nb10 (fun t ht hW => ⟨⟨r7, u11, rfl, ⟨Option.some.inj hR, nb10⟩, P_at ht hP⟩, hS.F ht⟩) hS.2.2 dX7_soundThen_40
abbrev rm_X7_leave : Room := { frames := 6, cells := 0, slots := 0, locals := 140 }
abbrev q_X7_leave (dC : Nat → ClassId) (dI : Nat → Nat → Nat) (cI cZ cS : ClassId) (aM : Nat → Nat) (hs : Int64) (res : Int32 × Pic) (A : Nat → Prop) : Array Value → State → Outcome → State → Prop := va_Qi (fun (r : Int32) (u : Pic) => (r, u) = res) (fun u t => va_P (dC, dI) vwCl (wMo cI aM u hs) t.heap) A
set_option maxHeartbeats 4000000 in
set_option maxRecDepth 100000 in
theorem met_X7_leave (l : Launch) (dC : Nat → ClassId) (dI : Nat → Nat → Nat) (cI cZ cS : ClassId) (aM : Nat → Nat) (M : Pic) (hs : Int64) (sz : Nat) (p1 : Int32) (p2 : Int32) (p3 : Int32) (res : Int32 × Pic) (hR : f7_leave M p1 p2 p3 = some res) : Met l yX7_leave wsX7_leave rm_X7_leave (va_Pc [.ref (aM 0), .int p1, .int p2, .int p3] (pW (dC, dI) (tyS cI cZ cS) (wMo cI aM M hs) sz)) (q_X7_leave dC dI cI cZ cS aM hs res (va_A (wMo cI aM M hs) sz)) 0 0 (va_A (wMo cI aM M hs) sz) := by
  refine Met.ofW (cc := cX7_leave) (maxL := 7) (ret := (some .int)) (by decide) rfl ?_
  intro p e s m args below meth c s₁ B hml hv
  obtain ⟨rfl, hsz, hP, hK, hD0, hN⟩ := hv
  have hx := B.exec
  have hb := B.bytes
  have hr := B.returns
  have hts := atoms_spec (ws := wsX7_leave) B.pre
  have hown : s.vm.findClass RX7 = some m.cls := findClass_of_methodNamed B.named
  have hlocks := B.notSynchronized
  subst hsz
  have hD := hD0.self (sz := s.heap.size)
  generalize hAe : va_A (wMo cI aM M hs) s.heap.size = A at hD ⊢
  have hA : ∀ q : Nat, s.heap.size ≤ q → A q := fun q h => by rw [← hAe]; exact Or.inr h
  have hS : va_S A s.heap s.heap [] := va_S.rf
  have hP : va_P (dC, dI) vwCl (wMo cI aM M hs) s.heap := hP
  rw [f7_leave] at hR
  have hin7 : ∀ w ∈ wsX70, w ∈ wsX7_leave := by decide +kernel
  have hl := lv_entry ([.ref (aM 0), .int p1, .int p2, .int p3]) (n := 7) (Nat.le_of_ble_eq_true rfl)
  rw [lg_entry_eq]
  generalize (lg_sl ([.ref (aM 0), .int p1, .int p2, .int p3]) ++ List.replicate (7 - (lg_sl ([.ref (aM 0), .int p1, .int p2, .int p3])).length) Slot.unset).toArray = ls at hl ⊢
  have hl : lv_has ls 7 [(0, .ref (aM 0)), (1, .int p1), (2, .int p2), (3, .int p3)] := hl
  refine lv_aload_n hx hb dX7_leave_0 rfl (lv_at hl 0 rfl) ?_
  refine lv_iload_n hx hb dX7_leave_1 rfl (lv_at hl 1 rfl) ?_
  refine va_calli (va_runV (As := [.int p1]) (rest := []) ⟨hx, hb, hml, hown, hts⟩ (met_X7_isDish l dC dI cI cZ cS aM M hs s.heap.size p1) (cwV 1 hts gX7_leave_X7_isDish rfl rfl rfl (by decide +kernel) ⟨Nat.le_of_ble_eq_true rfl, Nat.le_of_ble_eq_true rfl⟩) (pV (wc := wMo cI aM M hs) (ci := 7) (q0 := 0) hK hP hD hN [0, 1, 2, 3, 4, 5, 6, 7, 8] rfl (by decide) rfl rfl) rfl rfl hl.1 rfl (lv_room (Nat.le_of_ble_eq_true rfl)) dX7_leave_2 ⟨Nat.zero_le _, Nat.zero_le _⟩) hS (fun q _ h => a0_in hS hA q h) (a0_in hS hA) (fun r1 u t H1 locs ht hvm hw hB hz1 hk1 hS => ?_)
  obtain ⟨hw, nb2⟩ := hw
  subst hw
  have hP := rdk hP hk1
  refine lv_if_eq (tgt := 25) hx hb dX7_leave_5 (by decide) (fun c_3 => ?_) (fun c_3 => ?_)
  · rw [if_pos c_3] at hR
    refine lv_iconst (v := (0 : Int32)) hx hb dX7_leave_25 (by decide) ?_
    refine lv_istore (lv' := [(4, .int (0 : Int32)), (0, .ref (aM 0)), (1, .int p1), (2, .int p2), (3, .int p3)]) hx hb dX7_leave_26 hl (by decide) rfl (fun ls hl => ?_)
    refine lv_iload_n hx hb dX7_leave_28 rfl (lv_at hl 3 rfl) ?_
    refine lv_iconst (v := (-1 : Int32)) hx hb dX7_leave_29 (by decide) ?_
    refine lv_icmp_eq (tgt := 48) hx hb dX7_leave_30 (by decide) (fun c_4 => ?_) (fun c_4 => ?_)
    · rw [if_pos c_4] at hR
      refine lv_iconst (v := (1 : Int32)) hx hb dX7_leave_48 (by decide) ?_
      refine lv_goto (tgt := 53) hx hb dX7_leave_49 (by decide) ?_
      refine lv_istore (lv' := [(5, .int (1 : Int32)), (4, .int (0 : Int32)), (0, .ref (aM 0)), (1, .int p1), (2, .int p2), (3, .int p3)]) hx hb dX7_leave_53 hl (by decide) rfl (fun ls hl => ?_)
      refine lv_aload_n hx hb dX7_leave_55 rfl (lv_at hl 2 rfl) ?_
      refine lv_iload hx hb dX7_leave_56 (lv_at hl 1 rfl) ?_
      refine lv_if_ne (tgt := 65) hx hb dX7_leave_58 (by decide) (fun q => absurd (by decide) q) (fun _ => ?_)
      refine lv_iconst (v := (1 : Int32)) hx hb dX7_leave_61 (by decide) ?_
      refine lv_goto (tgt := 75) hx hb dX7_leave_62 (by decide) ?_
      refine va_put (D := (dC, dI)) (ci := 7) (v := .int (1 : Int32)) (ty := .int) (C := RX7) (T := TX7) (N := 15) hx hb hts hin7 tyX7 tyX7_ok nmX7 hown hK hP hD hS 0 rfl rfl 7 (by decide) (hw_ hts 1 rfl) (fun _ h9 => h9) rfl (by decide +kernel) rfl rfl (Nat.le_of_ble_eq_true rfl) dX7_leave_75 (fun H2 locs hP hD hS => ?_)
      have hP : va_P (dC, dI) vwCl (wMo cI aM (pset M 7 (fun _ => (1 : Int32))) hs) H2 := hP
      have hD : va_D A (wMo cI aM (pset M 7 (fun _ => (1 : Int32))) hs) := hD
      refine lv_aload_n hx hb dX7_leave_78 rfl (lv_at hl 2 rfl) ?_
      refine va_get (D := (dC, dI)) (ci := 7) (v := .int (1 : Int32)) (C := RX7) (T := TX7) (N := 15) hx hb hts hin7 hown hK hP 0 rfl rfl 7 (by decide) (hw_ hts 1 rfl) (fun _ h9 => h9) rfl dX7_leave_79 ?_
      refine lv_if_ne (tgt := 104) hx hb dX7_leave_82 (by decide) (fun _ => ?_) (fun q => absurd q (by decide))
      refine lv_aload_n hx hb dX7_leave_104 rfl (lv_at hl 2 rfl) ?_
      refine va_get (D := (dC, dI)) (ci := 7) (v := .int (1 : Int32)) (C := RX7) (T := TX7) (N := 15) hx hb hts hin7 hown hK hP 0 rfl rfl 7 (by decide) (hw_ hts 1 rfl) (fun _ h9 => h9) rfl dX7_leave_105 ?_
      refine lv_if_le (tgt := 113) hx hb dX7_leave_108 (by decide) (fun q => absurd q (by decide)) (fun _ => ?_)
      refine lv_iconst (v := (0 : Int32)) hx hb dX7_leave_111 (by decide) ?_
      exact W.iret (v := (0 : Int32)) hx hb hr (fun t ht hW => ⟨⟨(0 : Int32), (pset M 7 (fun _ => (1 : Int32))), rfl, Option.some.inj hR, P_at ht hP⟩, hS.F ht⟩) hS.2.2 dX7_leave_112
    · rw [if_neg c_4] at hR
      refine lv_iload_n hx hb dX7_leave_33 rfl (lv_at hl 4 rfl) ?_
      refine lv_iconst (v := (1 : Int32)) hx hb dX7_leave_34 (by decide) ?_
      refine lv_bipush (v := (6 : Int32)) hx hb dX7_leave_35 (by decide) ?_
      refine va_calli (va_runS (As := [.int p3, .int (1 : Int32), .int (6 : Int32)]) (rest := []) ⟨hx, hb, hml, hown, hts⟩ (met_X7_within l dC dI cI cZ cS H1.size p3 (1 : Int32) (6 : Int32)) (va_cwS 3 hts gX7_leave_X7_within rfl rfl rfl (by decide +kernel) ⟨Nat.le_of_ble_eq_true rfl, Nat.le_of_ble_eq_true rfl⟩) (pS (wc := []) hK hP hD hN [] rfl (by decide)) rfl rfl hl.1 rfl (lv_room (Nat.le_of_ble_eq_true rfl)) dX7_leave_37 ⟨Nat.zero_le _, Nat.zero_le _⟩) hS (fun q _ h => a0_in hS hA q h) (a0_in hS hA) (fun r5 u t H2 locs ht hvm hw hB hz1 hk1 hS => ?_)
      obtain ⟨hw, nb6⟩ := hw
      subst hw
      have hP := rdk hP hk1
      refine lv_if_eq (tgt := 52) hx hb dX7_leave_40 (by decide) (fun c_7 => ?_) (fun c_7 => ?_)
      · rw [if_pos c_7] at hR
        refine lv_iconst (v := (0 : Int32)) hx hb dX7_leave_52 (by decide) ?_
        refine lv_istore (lv' := [(5, .int (0 : Int32)), (4, .int (0 : Int32)), (0, .ref (aM 0)), (1, .int p1), (2, .int p2), (3, .int p3)]) hx hb dX7_leave_53 hl (by decide) rfl (fun ls hl => ?_)
        refine lv_aload_n hx hb dX7_leave_55 rfl (lv_at hl 2 rfl) ?_
        refine lv_iload hx hb dX7_leave_56 (lv_at hl 1 rfl) ?_
        refine lv_if_ne (tgt := 65) hx hb dX7_leave_58 (by decide) (fun q => absurd (by decide) q) (fun _ => ?_)
        refine lv_iconst (v := (1 : Int32)) hx hb dX7_leave_61 (by decide) ?_
        refine lv_goto (tgt := 75) hx hb dX7_leave_62 (by decide) ?_
        refine va_put (D := (dC, dI)) (ci := 7) (v := .int (1 : Int32)) (ty := .int) (C := RX7) (T := TX7) (N := 15) hx hb hts hin7 tyX7 tyX7_ok nmX7 hown hK hP hD hS 0 rfl rfl 7 (by decide) (hw_ hts 1 rfl) (fun _ h9 => h9) rfl (by decide +kernel) rfl rfl (Nat.le_of_ble_eq_true rfl) dX7_leave_75 (fun H3 locs hP hD hS => ?_)
        have hP : va_P (dC, dI) vwCl (wMo cI aM (pset M 7 (fun _ => (1 : Int32))) hs) H3 := hP
        have hD : va_D A (wMo cI aM (pset M 7 (fun _ => (1 : Int32))) hs) := hD
        refine lv_aload_n hx hb dX7_leave_78 rfl (lv_at hl 2 rfl) ?_
        refine va_get (D := (dC, dI)) (ci := 7) (v := .int (1 : Int32)) (C := RX7) (T := TX7) (N := 15) hx hb hts hin7 hown hK hP 0 rfl rfl 7 (by decide) (hw_ hts 1 rfl) (fun _ h9 => h9) rfl dX7_leave_79 ?_
        refine lv_if_ne (tgt := 104) hx hb dX7_leave_82 (by decide) (fun _ => ?_) (fun q => absurd q (by decide))
        refine lv_aload_n hx hb dX7_leave_104 rfl (lv_at hl 2 rfl) ?_
        refine va_get (D := (dC, dI)) (ci := 7) (v := .int (1 : Int32)) (C := RX7) (T := TX7) (N := 15) hx hb hts hin7 hown hK hP 0 rfl rfl 7 (by decide) (hw_ hts 1 rfl) (fun _ h9 => h9) rfl dX7_leave_105 ?_
        refine lv_if_le (tgt := 113) hx hb dX7_leave_108 (by decide) (fun q => absurd q (by decide)) (fun _ => ?_)
        refine lv_iconst (v := (0 : Int32)) hx hb dX7_leave_111 (by decide) ?_
        exact W.iret (v := (0 : Int32)) hx hb hr (fun t ht hW => ⟨⟨(0 : Int32), (pset M 7 (fun _ => (1 : Int32))), rfl, Option.some.inj hR, P_at ht hP⟩, hS.F ht⟩) hS.2.2 dX7_leave_112
      · rw [if_neg c_7] at hR
        refine lv_iload_n hx hb dX7_leave_43 rfl (lv_at hl 2 rfl) ?_
        refine lv_iload_n hx hb dX7_leave_44 rfl (lv_at hl 3 rfl) ?_
        refine lv_icmp_eq (tgt := 52) hx hb dX7_leave_45 (by decide) (fun c_8 => ?_) (fun c_8 => ?_)
        · rw [if_pos c_8] at hR
          refine lv_iconst (v := (0 : Int32)) hx hb dX7_leave_52 (by decide) ?_
          refine lv_istore (lv' := [(5, .int (0 : Int32)), (4, .int (0 : Int32)), (0, .ref (aM 0)), (1, .int p1), (2, .int p2), (3, .int p3)]) hx hb dX7_leave_53 hl (by decide) rfl (fun ls hl => ?_)
          refine lv_aload_n hx hb dX7_leave_55 rfl (lv_at hl 2 rfl) ?_
          refine lv_iload hx hb dX7_leave_56 (lv_at hl 1 rfl) ?_
          refine lv_if_ne (tgt := 65) hx hb dX7_leave_58 (by decide) (fun q => absurd (by decide) q) (fun _ => ?_)
          refine lv_iconst (v := (1 : Int32)) hx hb dX7_leave_61 (by decide) ?_
          refine lv_goto (tgt := 75) hx hb dX7_leave_62 (by decide) ?_
          refine va_put (D := (dC, dI)) (ci := 7) (v := .int (1 : Int32)) (ty := .int) (C := RX7) (T := TX7) (N := 15) hx hb hts hin7 tyX7 tyX7_ok nmX7 hown hK hP hD hS 0 rfl rfl 7 (by decide) (hw_ hts 1 rfl) (fun _ h9 => h9) rfl (by decide +kernel) rfl rfl (Nat.le_of_ble_eq_true rfl) dX7_leave_75 (fun H3 locs hP hD hS => ?_)
          have hP : va_P (dC, dI) vwCl (wMo cI aM (pset M 7 (fun _ => (1 : Int32))) hs) H3 := hP
          have hD : va_D A (wMo cI aM (pset M 7 (fun _ => (1 : Int32))) hs) := hD
          refine lv_aload_n hx hb dX7_leave_78 rfl (lv_at hl 2 rfl) ?_
          refine va_get (D := (dC, dI)) (ci := 7) (v := .int (1 : Int32)) (C := RX7) (T := TX7) (N := 15) hx hb hts hin7 hown hK hP 0 rfl rfl 7 (by decide) (hw_ hts 1 rfl) (fun _ h9 => h9) rfl dX7_leave_79 ?_
          refine lv_if_ne (tgt := 104) hx hb dX7_leave_82 (by decide) (fun _ => ?_) (fun q => absurd q (by decide))
          refine lv_aload_n hx hb dX7_leave_104 rfl (lv_at hl 2 rfl) ?_
          refine va_get (D := (dC, dI)) (ci := 7) (v := .int (1 : Int32)) (C := RX7) (T := TX7) (N := 15) hx hb hts hin7 hown hK hP 0 rfl rfl 7 (by decide) (hw_ hts 1 rfl) (fun _ h9 => h9) rfl dX7_leave_105 ?_
          refine lv_if_le (tgt := 113) hx hb dX7_leave_108 (by decide) (fun q => absurd q (by decide)) (fun _ => ?_)
          refine lv_iconst (v := (0 : Int32)) hx hb dX7_leave_111 (by decide) ?_
          exact W.iret (v := (0 : Int32)) hx hb hr (fun t ht hW => ⟨⟨(0 : Int32), (pset M 7 (fun _ => (1 : Int32))), rfl, Option.some.inj hR, P_at ht hP⟩, hS.F ht⟩) hS.2.2 dX7_leave_112
        · rw [if_neg c_8] at hR
          refine lv_iconst (v := (1 : Int32)) hx hb dX7_leave_48 (by decide) ?_
          refine lv_goto (tgt := 53) hx hb dX7_leave_49 (by decide) ?_
          refine lv_istore (lv' := [(5, .int (1 : Int32)), (4, .int (0 : Int32)), (0, .ref (aM 0)), (1, .int p1), (2, .int p2), (3, .int p3)]) hx hb dX7_leave_53 hl (by decide) rfl (fun ls hl => ?_)
          refine lv_aload_n hx hb dX7_leave_55 rfl (lv_at hl 2 rfl) ?_
          refine lv_iload hx hb dX7_leave_56 (lv_at hl 1 rfl) ?_
          refine lv_if_ne (tgt := 65) hx hb dX7_leave_58 (by decide) (fun q => absurd (by decide) q) (fun _ => ?_)
          refine lv_iconst (v := (1 : Int32)) hx hb dX7_leave_61 (by decide) ?_
          refine lv_goto (tgt := 75) hx hb dX7_leave_62 (by decide) ?_
          refine va_put (D := (dC, dI)) (ci := 7) (v := .int (1 : Int32)) (ty := .int) (C := RX7) (T := TX7) (N := 15) hx hb hts hin7 tyX7 tyX7_ok nmX7 hown hK hP hD hS 0 rfl rfl 7 (by decide) (hw_ hts 1 rfl) (fun _ h9 => h9) rfl (by decide +kernel) rfl rfl (Nat.le_of_ble_eq_true rfl) dX7_leave_75 (fun H3 locs hP hD hS => ?_)
          have hP : va_P (dC, dI) vwCl (wMo cI aM (pset M 7 (fun _ => (1 : Int32))) hs) H3 := hP
          have hD : va_D A (wMo cI aM (pset M 7 (fun _ => (1 : Int32))) hs) := hD
          refine lv_aload_n hx hb dX7_leave_78 rfl (lv_at hl 2 rfl) ?_
          refine va_get (D := (dC, dI)) (ci := 7) (v := .int (1 : Int32)) (C := RX7) (T := TX7) (N := 15) hx hb hts hin7 hown hK hP 0 rfl rfl 7 (by decide) (hw_ hts 1 rfl) (fun _ h9 => h9) rfl dX7_leave_79 ?_
          refine lv_if_ne (tgt := 104) hx hb dX7_leave_82 (by decide) (fun _ => ?_) (fun q => absurd q (by decide))
          refine lv_aload_n hx hb dX7_leave_104 rfl (lv_at hl 2 rfl) ?_
          refine va_get (D := (dC, dI)) (ci := 7) (v := .int (1 : Int32)) (C := RX7) (T := TX7) (N := 15) hx hb hts hin7 hown hK hP 0 rfl rfl 7 (by decide) (hw_ hts 1 rfl) (fun _ h9 => h9) rfl dX7_leave_105 ?_
          refine lv_if_le (tgt := 113) hx hb dX7_leave_108 (by decide) (fun q => absurd q (by decide)) (fun _ => ?_)
          refine lv_iconst (v := (0 : Int32)) hx hb dX7_leave_111 (by decide) ?_
          exact W.iret (v := (0 : Int32)) hx hb hr (fun t ht hW => ⟨⟨(0 : Int32), (pset M 7 (fun _ => (1 : Int32))), rfl, Option.some.inj hR, P_at ht hP⟩, hS.F ht⟩) hS.2.2 dX7_leave_112
  · rw [if_neg c_3] at hR
    refine lv_iload_n hx hb dX7_leave_8 rfl (lv_at hl 2 rfl) ?_
    refine lv_iconst (v := (-1 : Int32)) hx hb dX7_leave_9 (by decide) ?_
    refine lv_icmp_eq (tgt := 21) hx hb dX7_leave_10 (by decide) (fun c_9 => ?_) (fun c_9 => ?_)
    · rw [if_pos c_9] at hR
      refine lv_iconst (v := (1 : Int32)) hx hb dX7_leave_21 (by decide) ?_
      refine lv_goto (tgt := 26) hx hb dX7_leave_22 (by decide) ?_
      refine lv_istore (lv' := [(4, .int (1 : Int32)), (0, .ref (aM 0)), (1, .int p1), (2, .int p2), (3, .int p3)]) hx hb dX7_leave_26 hl (by decide) rfl (fun ls hl => ?_)
      refine lv_iload_n hx hb dX7_leave_28 rfl (lv_at hl 3 rfl) ?_
      refine lv_iconst (v := (-1 : Int32)) hx hb dX7_leave_29 (by decide) ?_
      refine lv_icmp_eq (tgt := 48) hx hb dX7_leave_30 (by decide) (fun _ => ?_) (fun q => absurd c_9 q)
      refine lv_iconst (v := (1 : Int32)) hx hb dX7_leave_48 (by decide) ?_
      refine lv_goto (tgt := 53) hx hb dX7_leave_49 (by decide) ?_
      refine lv_istore (lv' := [(5, .int (1 : Int32)), (4, .int (1 : Int32)), (0, .ref (aM 0)), (1, .int p1), (2, .int p2), (3, .int p3)]) hx hb dX7_leave_53 hl (by decide) rfl (fun ls hl => ?_)
      refine lv_aload_n hx hb dX7_leave_55 rfl (lv_at hl 2 rfl) ?_
      refine lv_iload hx hb dX7_leave_56 (lv_at hl 1 rfl) ?_
      refine lv_if_ne (tgt := 65) hx hb dX7_leave_58 (by decide) (fun _ => ?_) (fun q => absurd q (by decide))
      refine lv_iload hx hb dX7_leave_65 (lv_at hl 0 rfl) ?_
      refine lv_if_ne (tgt := 74) hx hb dX7_leave_67 (by decide) (fun _ => ?_) (fun q => absurd q (by decide))
      refine lv_iconst (v := (0 : Int32)) hx hb dX7_leave_74 (by decide) ?_
      refine va_put (D := (dC, dI)) (ci := 7) (v := .int (0 : Int32)) (ty := .int) (C := RX7) (T := TX7) (N := 15) hx hb hts hin7 tyX7 tyX7_ok nmX7 hown hK hP hD hS 0 rfl rfl 7 (by decide) (hw_ hts 1 rfl) (fun _ h9 => h9) rfl (by decide +kernel) rfl rfl (Nat.le_of_ble_eq_true rfl) dX7_leave_75 (fun H2 locs hP hD hS => ?_)
      have hP : va_P (dC, dI) vwCl (wMo cI aM (pset M 7 (fun _ => (0 : Int32))) hs) H2 := hP
      have hD : va_D A (wMo cI aM (pset M 7 (fun _ => (0 : Int32))) hs) := hD
      refine lv_aload_n hx hb dX7_leave_78 rfl (lv_at hl 2 rfl) ?_
      refine va_get (D := (dC, dI)) (ci := 7) (v := .int (0 : Int32)) (C := RX7) (T := TX7) (N := 15) hx hb hts hin7 hown hK hP 0 rfl rfl 7 (by decide) (hw_ hts 1 rfl) (fun _ h9 => h9) rfl dX7_leave_79 ?_
      refine lv_if_ne (tgt := 104) hx hb dX7_leave_82 (by decide) (fun q => absurd (by decide) q) (fun _ => ?_)
      refine lv_aload_n hx hb dX7_leave_85 rfl (lv_at hl 2 rfl) ?_
      refine lv_aload_n hx hb dX7_leave_86 rfl (lv_at hl 2 rfl) ?_
      refine lv_iload_n hx hb dX7_leave_87 rfl (lv_at hl 3 rfl) ?_
      refine lv_iload_n hx hb dX7_leave_88 rfl (lv_at hl 4 rfl) ?_
      refine lv_iload_n hx hb dX7_leave_89 rfl (lv_at hl 5 rfl) ?_
      obtain ⟨r10, u11, hc12, hR⟩ := ob2_e hR
      have hF := va_free (wc := wMo cI aM (pset M 7 (fun _ => (0 : Int32))) hs) hD hS hA [0, 1, 2, 3, 4, 5, 6, 7, 8] rfl
      refine va_calli (va_runV (As := [.int p1, .int p2, .int p3]) (rest := [.ref (aM 0)]) ⟨hx, hb, hml, hown, hts⟩ (met_X7_soundThen l dC dI cI cZ cS aM (pset M 7 (fun _ => (0 : Int32))) hs H2.size p1 p2 p3 (r10, u11) hc12) (cwV 3 hts gX7_leave_X7_soundThen rfl rfl rfl (by decide +kernel) ⟨Nat.le_of_ble_eq_true rfl, Nat.le_of_ble_eq_true rfl⟩) (pV (wc := wMo cI aM (pset M 7 (fun _ => (0 : Int32))) hs) (ci := 7) (q0 := 0) hK hP hD hN [0, 1, 2, 3, 4, 5, 6, 7, 8] rfl (by decide) rfl rfl) rfl rfl hl.1 rfl (lv_room (Nat.le_of_ble_eq_true rfl)) dX7_leave_90 ⟨Nat.zero_le _, Nat.zero_le _⟩) hS (fun q _ h => hF q h) hF (fun r10 u11 t H3 locs ht hvm hw hB hz1 hk1 hS => ?_)
      obtain ⟨hw, nb13⟩ := hw
      try dsimp only at hw hB
      rw [ht] at hB
      cases hw
      have hP := wrk (w2 := wMo cI aM u11 hs) hP hD [0, 1, 2, 3, 4, 5, 6, 7, 8] rfl (by decide) hk1 hB rfl rfl
      have hD := D_addr (w1 := wMo cI aM u11 hs) hD rfl
      refine lv_if_eq (tgt := 100) hx hb dX7_leave_93 (by decide) (fun c_14 => ?_) (fun c_14 => ?_)
      · rw [if_pos c_14] at hR
        refine lv_iconst (v := (3 : Int32)) hx hb dX7_leave_100 (by decide) ?_
        refine va_put (D := (dC, dI)) (ci := 7) (v := .int (3 : Int32)) (ty := .int) (C := RX7) (T := TX7) (N := 15) hx hb hts hin7 tyX7 tyX7_ok nmX7 hown hK hP hD hS 0 rfl rfl 7 (by decide) (hw_ hts 1 rfl) (fun _ h9 => h9) rfl (by decide +kernel) rfl rfl (Nat.le_of_ble_eq_true rfl) dX7_leave_101 (fun H4 locs hP hD hS => ?_)
        have hP : va_P (dC, dI) vwCl (wMo cI aM (pset u11 7 (fun _ => (3 : Int32))) hs) H4 := hP
        have hD : va_D A (wMo cI aM (pset u11 7 (fun _ => (3 : Int32))) hs) := hD
        refine lv_aload_n hx hb dX7_leave_104 rfl (lv_at hl 2 rfl) ?_
        refine va_get (D := (dC, dI)) (ci := 7) (v := .int (3 : Int32)) (C := RX7) (T := TX7) (N := 15) hx hb hts hin7 hown hK hP 0 rfl rfl 7 (by decide) (hw_ hts 1 rfl) (fun _ h9 => h9) rfl dX7_leave_105 ?_
        refine lv_if_le (tgt := 113) hx hb dX7_leave_108 (by decide) (fun q => absurd q (by decide)) (fun _ => ?_)
        refine lv_iconst (v := (0 : Int32)) hx hb dX7_leave_111 (by decide) ?_
        exact W.iret (v := (0 : Int32)) hx hb hr (fun t ht hW => ⟨⟨(0 : Int32), (pset u11 7 (fun _ => (3 : Int32))), rfl, Option.some.inj hR, P_at ht hP⟩, hS.F ht⟩) hS.2.2 dX7_leave_112
      · rw [if_neg c_14] at hR
        refine lv_iconst (v := (0 : Int32)) hx hb dX7_leave_96 (by decide) ?_
        refine lv_goto (tgt := 101) hx hb dX7_leave_97 (by decide) ?_
        refine va_put (D := (dC, dI)) (ci := 7) (v := .int (0 : Int32)) (ty := .int) (C := RX7) (T := TX7) (N := 15) hx hb hts hin7 tyX7 tyX7_ok nmX7 hown hK hP hD hS 0 rfl rfl 7 (by decide) (hw_ hts 1 rfl) (fun _ h9 => h9) rfl (by decide +kernel) rfl rfl (Nat.le_of_ble_eq_true rfl) dX7_leave_101 (fun H4 locs hP hD hS => ?_)
        have hP : va_P (dC, dI) vwCl (wMo cI aM (pset u11 7 (fun _ => (0 : Int32))) hs) H4 := hP
        have hD : va_D A (wMo cI aM (pset u11 7 (fun _ => (0 : Int32))) hs) := hD
        refine lv_aload_n hx hb dX7_leave_104 rfl (lv_at hl 2 rfl) ?_
        refine va_get (D := (dC, dI)) (ci := 7) (v := .int (0 : Int32)) (C := RX7) (T := TX7) (N := 15) hx hb hts hin7 hown hK hP 0 rfl rfl 7 (by decide) (hw_ hts 1 rfl) (fun _ h9 => h9) rfl dX7_leave_105 ?_
        refine lv_if_le (tgt := 113) hx hb dX7_leave_108 (by decide) (fun _ => ?_) (fun q => absurd (by decide) q)
        refine lv_aload_n hx hb dX7_leave_113 rfl (lv_at hl 2 rfl) ?_
        obtain ⟨u15, hc16, hR⟩ := ob1_e hR
        have hF := va_free (wc := wMo cI aM (pset u11 7 (fun _ => (0 : Int32))) hs) hD hS hA [0, 1, 2, 3, 4, 5, 6, 7, 8] rfl
        refine va_callv (va_runV (As := []) (rest := []) ⟨hx, hb, hml, hown, hts⟩ (met_X7_save l dC dI cI cZ cS aM (pset u11 7 (fun _ => (0 : Int32))) hs H4.size u15 hc16) (cwV 0 hts gX7_leave_X7_save rfl rfl rfl (by decide +kernel) ⟨Nat.le_of_ble_eq_true rfl, Nat.le_of_ble_eq_true rfl⟩) (pV (wc := wMo cI aM (pset u11 7 (fun _ => (0 : Int32))) hs) (ci := 7) (q0 := 0) hK hP hD hN [0, 1, 2, 3, 4, 5, 6, 7, 8] rfl (by decide) rfl rfl) rfl rfl hl.1 rfl (lv_room (Nat.le_of_ble_eq_true rfl)) dX7_leave_114 ⟨Nat.zero_le _, Nat.zero_le _⟩) hS (fun q _ h => hF q h) hF (fun  u15 t H5 locs ht hvm hw hB hz1 hk1 hS => ?_)
        try dsimp only at hw hB
        rw [ht] at hB
        cases hw
        have hP := wrk (w2 := wMo cI aM u15 hs) hP hD [0, 1, 2, 3, 4, 5, 6, 7, 8] rfl (by decide) hk1 hB rfl rfl
        have hD := D_addr (w1 := wMo cI aM u15 hs) hD rfl
        refine lv_aload_n hx hb dX7_leave_117 rfl (lv_at hl 2 rfl) ?_
        refine lv_iload_n hx hb dX7_leave_118 rfl (lv_at hl 3 rfl) ?_
        refine lv_iconst (v := (4 : Int32)) hx hb dX7_leave_119 (by decide) ?_
        obtain ⟨r17, hc18, hR⟩ := ob1_e hR
        refine va_calli (va_runV (As := [.int p1, .int (4 : Int32)]) (rest := []) ⟨hx, hb, hml, hown, hts⟩ (met_X7_of l dC dI cI cZ cS aM u15 hs H5.size p1 (4 : Int32) r17 hc18) (cwV 2 hts gX7_leave_X7_of rfl rfl rfl (by decide +kernel) ⟨Nat.le_of_ble_eq_true rfl, Nat.le_of_ble_eq_true rfl⟩) (pV (wc := wMo cI aM u15 hs) (ci := 7) (q0 := 0) hK hP hD hN [0, 1, 2, 3, 4, 5, 6, 7, 8] rfl (by decide) rfl rfl) rfl rfl hl.1 rfl (lv_room (Nat.le_of_ble_eq_true rfl)) dX7_leave_120 ⟨Nat.zero_le _, Nat.zero_le _⟩) hS (fun q _ h => a0_in hS hA q h) (a0_in hS hA) (fun r17 u t H6 locs ht hvm hw hB hz1 hk1 hS => ?_)
        cases hw
        have hP := rdk hP hk1
        refine lv_istore (lv' := [(6, .int r17), (5, .int (1 : Int32)), (4, .int (1 : Int32)), (0, .ref (aM 0)), (1, .int p1), (2, .int p2), (3, .int p3)]) hx hb dX7_leave_123 hl (by decide) rfl (fun ls hl => ?_)
        refine lv_aload_n hx hb dX7_leave_125 rfl (lv_at hl 3 rfl) ?_
        refine lv_iload_n hx hb dX7_leave_126 rfl (lv_at hl 4 rfl) ?_
        refine lv_iload_n hx hb dX7_leave_127 rfl (lv_at hl 5 rfl) ?_
        refine lv_iload_n hx hb dX7_leave_128 rfl (lv_at hl 6 rfl) ?_
        obtain ⟨u19, hc20, hR⟩ := ob1_e hR
        have hF := va_free (wc := wMo cI aM u15 hs) hD hS hA [0, 1, 2, 3, 4, 5, 6, 7, 8] rfl
        refine va_callv (va_runV (As := [.int p1, .int p2, .int p3]) (rest := []) ⟨hx, hb, hml, hown, hts⟩ (met_X7_setLeft l dC dI cI cZ cS aM u15 hs H6.size p1 p2 p3 u19 hc20) (cwV 3 hts gX7_leave_X7_setLeft rfl rfl rfl (by decide +kernel) ⟨Nat.le_of_ble_eq_true rfl, Nat.le_of_ble_eq_true rfl⟩) (pV (wc := wMo cI aM u15 hs) (ci := 7) (q0 := 0) hK hP hD hN [0, 1, 2, 3, 4, 5, 6, 7, 8] rfl (by decide) rfl rfl) rfl rfl hl.1 rfl (lv_room (Nat.le_of_ble_eq_true rfl)) dX7_leave_129 ⟨Nat.zero_le _, Nat.zero_le _⟩) hS (fun q _ h => hF q h) hF (fun  u19 t H7 locs ht hvm hw hB hz1 hk1 hS => ?_)
        try dsimp only at hw hB
        rw [ht] at hB
        cases hw
        have hP := wrk (w2 := wMo cI aM u19 hs) hP hD [0, 1, 2, 3, 4, 5, 6, 7, 8] rfl (by decide) hk1 hB rfl rfl
        have hD := D_addr (w1 := wMo cI aM u19 hs) hD rfl
        refine lv_iload hx hb dX7_leave_132 (lv_at hl 0 rfl) ?_
        exact W.iret (v := r17) hx hb hr (fun t ht hW => ⟨⟨r17, u19, rfl, Option.some.inj hR, P_at ht hP⟩, hS.F ht⟩) hS.2.2 dX7_leave_134
    · rw [if_neg c_9] at hR
      refine lv_aload_n hx hb dX7_leave_13 rfl (lv_at hl 0 rfl) ?_
      refine lv_iload_n hx hb dX7_leave_14 rfl (lv_at hl 2 rfl) ?_
      refine va_calli (va_runV (As := [.int p2]) (rest := []) ⟨hx, hb, hml, hown, hts⟩ (met_X7_isDish l dC dI cI cZ cS aM M hs H1.size p2) (cwV 1 hts gX7_leave_X7_isDish rfl rfl rfl (by decide +kernel) ⟨Nat.le_of_ble_eq_true rfl, Nat.le_of_ble_eq_true rfl⟩) (pV (wc := wMo cI aM M hs) (ci := 7) (q0 := 0) hK hP hD hN [0, 1, 2, 3, 4, 5, 6, 7, 8] rfl (by decide) rfl rfl) rfl rfl hl.1 rfl (lv_room (Nat.le_of_ble_eq_true rfl)) dX7_leave_15 ⟨Nat.zero_le _, Nat.zero_le _⟩) hS (fun q _ h => a0_in hS hA q h) (a0_in hS hA) (fun r21 u t H2 locs ht hvm hw hB hz1 hk1 hS => ?_)
      obtain ⟨hw, nb22⟩ := hw
      subst hw
      have hP := rdk hP hk1
      refine lv_if_eq (tgt := 25) hx hb dX7_leave_18 (by decide) (fun c_23 => ?_) (fun c_23 => ?_)
      · rw [if_pos c_23] at hR
        refine lv_iconst (v := (0 : Int32)) hx hb dX7_leave_25 (by decide) ?_
        refine lv_istore (lv' := [(4, .int (0 : Int32)), (0, .ref (aM 0)), (1, .int p1), (2, .int p2), (3, .int p3)]) hx hb dX7_leave_26 hl (by decide) rfl (fun ls hl => ?_)
        refine lv_iload_n hx hb dX7_leave_28 rfl (lv_at hl 3 rfl) ?_
        refine lv_iconst (v := (-1 : Int32)) hx hb dX7_leave_29 (by decide) ?_
        refine lv_icmp_eq (tgt := 48) hx hb dX7_leave_30 (by decide) (fun q => absurd q c_9) (fun _ => ?_)
        refine lv_iload_n hx hb dX7_leave_33 rfl (lv_at hl 4 rfl) ?_
        refine lv_iconst (v := (1 : Int32)) hx hb dX7_leave_34 (by decide) ?_
        refine lv_bipush (v := (6 : Int32)) hx hb dX7_leave_35 (by decide) ?_
        refine va_calli (va_runS (As := [.int p3, .int (1 : Int32), .int (6 : Int32)]) (rest := []) ⟨hx, hb, hml, hown, hts⟩ (met_X7_within l dC dI cI cZ cS H2.size p3 (1 : Int32) (6 : Int32)) (va_cwS 3 hts gX7_leave_X7_within rfl rfl rfl (by decide +kernel) ⟨Nat.le_of_ble_eq_true rfl, Nat.le_of_ble_eq_true rfl⟩) (pS (wc := []) hK hP hD hN [] rfl (by decide)) rfl rfl hl.1 rfl (lv_room (Nat.le_of_ble_eq_true rfl)) dX7_leave_37 ⟨Nat.zero_le _, Nat.zero_le _⟩) hS (fun q _ h => a0_in hS hA q h) (a0_in hS hA) (fun r24 u t H3 locs ht hvm hw hB hz1 hk1 hS => ?_)
        obtain ⟨hw, nb25⟩ := hw
        subst hw
        have hP := rdk hP hk1
        refine lv_if_eq (tgt := 52) hx hb dX7_leave_40 (by decide) (fun c_26 => ?_) (fun c_26 => ?_)
        · rw [if_pos c_26] at hR
          refine lv_iconst (v := (0 : Int32)) hx hb dX7_leave_52 (by decide) ?_
          refine lv_istore (lv' := [(5, .int (0 : Int32)), (4, .int (0 : Int32)), (0, .ref (aM 0)), (1, .int p1), (2, .int p2), (3, .int p3)]) hx hb dX7_leave_53 hl (by decide) rfl (fun ls hl => ?_)
          refine lv_aload_n hx hb dX7_leave_55 rfl (lv_at hl 2 rfl) ?_
          refine lv_iload hx hb dX7_leave_56 (lv_at hl 1 rfl) ?_
          refine lv_if_ne (tgt := 65) hx hb dX7_leave_58 (by decide) (fun q => absurd (by decide) q) (fun _ => ?_)
          refine lv_iconst (v := (1 : Int32)) hx hb dX7_leave_61 (by decide) ?_
          refine lv_goto (tgt := 75) hx hb dX7_leave_62 (by decide) ?_
          refine va_put (D := (dC, dI)) (ci := 7) (v := .int (1 : Int32)) (ty := .int) (C := RX7) (T := TX7) (N := 15) hx hb hts hin7 tyX7 tyX7_ok nmX7 hown hK hP hD hS 0 rfl rfl 7 (by decide) (hw_ hts 1 rfl) (fun _ h9 => h9) rfl (by decide +kernel) rfl rfl (Nat.le_of_ble_eq_true rfl) dX7_leave_75 (fun H4 locs hP hD hS => ?_)
          have hP : va_P (dC, dI) vwCl (wMo cI aM (pset M 7 (fun _ => (1 : Int32))) hs) H4 := hP
          have hD : va_D A (wMo cI aM (pset M 7 (fun _ => (1 : Int32))) hs) := hD
          refine lv_aload_n hx hb dX7_leave_78 rfl (lv_at hl 2 rfl) ?_
          refine va_get (D := (dC, dI)) (ci := 7) (v := .int (1 : Int32)) (C := RX7) (T := TX7) (N := 15) hx hb hts hin7 hown hK hP 0 rfl rfl 7 (by decide) (hw_ hts 1 rfl) (fun _ h9 => h9) rfl dX7_leave_79 ?_
          refine lv_if_ne (tgt := 104) hx hb dX7_leave_82 (by decide) (fun _ => ?_) (fun q => absurd q (by decide))
          refine lv_aload_n hx hb dX7_leave_104 rfl (lv_at hl 2 rfl) ?_
          refine va_get (D := (dC, dI)) (ci := 7) (v := .int (1 : Int32)) (C := RX7) (T := TX7) (N := 15) hx hb hts hin7 hown hK hP 0 rfl rfl 7 (by decide) (hw_ hts 1 rfl) (fun _ h9 => h9) rfl dX7_leave_105 ?_
          refine lv_if_le (tgt := 113) hx hb dX7_leave_108 (by decide) (fun q => absurd q (by decide)) (fun _ => ?_)
          refine lv_iconst (v := (0 : Int32)) hx hb dX7_leave_111 (by decide) ?_
          exact W.iret (v := (0 : Int32)) hx hb hr (fun t ht hW => ⟨⟨(0 : Int32), (pset M 7 (fun _ => (1 : Int32))), rfl, Option.some.inj hR, P_at ht hP⟩, hS.F ht⟩) hS.2.2 dX7_leave_112
        · rw [if_neg c_26] at hR
          refine lv_iload_n hx hb dX7_leave_43 rfl (lv_at hl 2 rfl) ?_
          refine lv_iload_n hx hb dX7_leave_44 rfl (lv_at hl 3 rfl) ?_
          refine lv_icmp_eq (tgt := 52) hx hb dX7_leave_45 (by decide) (fun c_27 => ?_) (fun c_27 => ?_)
          · rw [if_pos c_27] at hR
            refine lv_iconst (v := (0 : Int32)) hx hb dX7_leave_52 (by decide) ?_
            refine lv_istore (lv' := [(5, .int (0 : Int32)), (4, .int (0 : Int32)), (0, .ref (aM 0)), (1, .int p1), (2, .int p2), (3, .int p3)]) hx hb dX7_leave_53 hl (by decide) rfl (fun ls hl => ?_)
            refine lv_aload_n hx hb dX7_leave_55 rfl (lv_at hl 2 rfl) ?_
            refine lv_iload hx hb dX7_leave_56 (lv_at hl 1 rfl) ?_
            refine lv_if_ne (tgt := 65) hx hb dX7_leave_58 (by decide) (fun q => absurd (by decide) q) (fun _ => ?_)
            refine lv_iconst (v := (1 : Int32)) hx hb dX7_leave_61 (by decide) ?_
            refine lv_goto (tgt := 75) hx hb dX7_leave_62 (by decide) ?_
            refine va_put (D := (dC, dI)) (ci := 7) (v := .int (1 : Int32)) (ty := .int) (C := RX7) (T := TX7) (N := 15) hx hb hts hin7 tyX7 tyX7_ok nmX7 hown hK hP hD hS 0 rfl rfl 7 (by decide) (hw_ hts 1 rfl) (fun _ h9 => h9) rfl (by decide +kernel) rfl rfl (Nat.le_of_ble_eq_true rfl) dX7_leave_75 (fun H4 locs hP hD hS => ?_)
            have hP : va_P (dC, dI) vwCl (wMo cI aM (pset M 7 (fun _ => (1 : Int32))) hs) H4 := hP
            have hD : va_D A (wMo cI aM (pset M 7 (fun _ => (1 : Int32))) hs) := hD
            refine lv_aload_n hx hb dX7_leave_78 rfl (lv_at hl 2 rfl) ?_
            refine va_get (D := (dC, dI)) (ci := 7) (v := .int (1 : Int32)) (C := RX7) (T := TX7) (N := 15) hx hb hts hin7 hown hK hP 0 rfl rfl 7 (by decide) (hw_ hts 1 rfl) (fun _ h9 => h9) rfl dX7_leave_79 ?_
            refine lv_if_ne (tgt := 104) hx hb dX7_leave_82 (by decide) (fun _ => ?_) (fun q => absurd q (by decide))
            refine lv_aload_n hx hb dX7_leave_104 rfl (lv_at hl 2 rfl) ?_
            refine va_get (D := (dC, dI)) (ci := 7) (v := .int (1 : Int32)) (C := RX7) (T := TX7) (N := 15) hx hb hts hin7 hown hK hP 0 rfl rfl 7 (by decide) (hw_ hts 1 rfl) (fun _ h9 => h9) rfl dX7_leave_105 ?_
            refine lv_if_le (tgt := 113) hx hb dX7_leave_108 (by decide) (fun q => absurd q (by decide)) (fun _ => ?_)
            refine lv_iconst (v := (0 : Int32)) hx hb dX7_leave_111 (by decide) ?_
            exact W.iret (v := (0 : Int32)) hx hb hr (fun t ht hW => ⟨⟨(0 : Int32), (pset M 7 (fun _ => (1 : Int32))), rfl, Option.some.inj hR, P_at ht hP⟩, hS.F ht⟩) hS.2.2 dX7_leave_112
          · rw [if_neg c_27] at hR
            refine lv_iconst (v := (1 : Int32)) hx hb dX7_leave_48 (by decide) ?_
            refine lv_goto (tgt := 53) hx hb dX7_leave_49 (by decide) ?_
            refine lv_istore (lv' := [(5, .int (1 : Int32)), (4, .int (0 : Int32)), (0, .ref (aM 0)), (1, .int p1), (2, .int p2), (3, .int p3)]) hx hb dX7_leave_53 hl (by decide) rfl (fun ls hl => ?_)
            refine lv_aload_n hx hb dX7_leave_55 rfl (lv_at hl 2 rfl) ?_
            refine lv_iload hx hb dX7_leave_56 (lv_at hl 1 rfl) ?_
            refine lv_if_ne (tgt := 65) hx hb dX7_leave_58 (by decide) (fun q => absurd (by decide) q) (fun _ => ?_)
            refine lv_iconst (v := (1 : Int32)) hx hb dX7_leave_61 (by decide) ?_
            refine lv_goto (tgt := 75) hx hb dX7_leave_62 (by decide) ?_
            refine va_put (D := (dC, dI)) (ci := 7) (v := .int (1 : Int32)) (ty := .int) (C := RX7) (T := TX7) (N := 15) hx hb hts hin7 tyX7 tyX7_ok nmX7 hown hK hP hD hS 0 rfl rfl 7 (by decide) (hw_ hts 1 rfl) (fun _ h9 => h9) rfl (by decide +kernel) rfl rfl (Nat.le_of_ble_eq_true rfl) dX7_leave_75 (fun H4 locs hP hD hS => ?_)
            have hP : va_P (dC, dI) vwCl (wMo cI aM (pset M 7 (fun _ => (1 : Int32))) hs) H4 := hP
            have hD : va_D A (wMo cI aM (pset M 7 (fun _ => (1 : Int32))) hs) := hD
            refine lv_aload_n hx hb dX7_leave_78 rfl (lv_at hl 2 rfl) ?_
            refine va_get (D := (dC, dI)) (ci := 7) (v := .int (1 : Int32)) (C := RX7) (T := TX7) (N := 15) hx hb hts hin7 hown hK hP 0 rfl rfl 7 (by decide) (hw_ hts 1 rfl) (fun _ h9 => h9) rfl dX7_leave_79 ?_
            refine lv_if_ne (tgt := 104) hx hb dX7_leave_82 (by decide) (fun _ => ?_) (fun q => absurd q (by decide))
            refine lv_aload_n hx hb dX7_leave_104 rfl (lv_at hl 2 rfl) ?_
            refine va_get (D := (dC, dI)) (ci := 7) (v := .int (1 : Int32)) (C := RX7) (T := TX7) (N := 15) hx hb hts hin7 hown hK hP 0 rfl rfl 7 (by decide) (hw_ hts 1 rfl) (fun _ h9 => h9) rfl dX7_leave_105 ?_
            refine lv_if_le (tgt := 113) hx hb dX7_leave_108 (by decide) (fun q => absurd q (by decide)) (fun _ => ?_)
            refine lv_iconst (v := (0 : Int32)) hx hb dX7_leave_111 (by decide) ?_
            exact W.iret (v := (0 : Int32)) hx hb hr (fun t ht hW => ⟨⟨(0 : Int32), (pset M 7 (fun _ => (1 : Int32))), rfl, Option.some.inj hR, P_at ht hP⟩, hS.F ht⟩) hS.2.2 dX7_leave_112
      · rw [if_neg c_23] at hR
        refine lv_iconst (v := (1 : Int32)) hx hb dX7_leave_21 (by decide) ?_
        refine lv_goto (tgt := 26) hx hb dX7_leave_22 (by decide) ?_
        refine lv_istore (lv' := [(4, .int (1 : Int32)), (0, .ref (aM 0)), (1, .int p1), (2, .int p2), (3, .int p3)]) hx hb dX7_leave_26 hl (by decide) rfl (fun ls hl => ?_)
        refine lv_iload_n hx hb dX7_leave_28 rfl (lv_at hl 3 rfl) ?_
        refine lv_iconst (v := (-1 : Int32)) hx hb dX7_leave_29 (by decide) ?_
        refine lv_icmp_eq (tgt := 48) hx hb dX7_leave_30 (by decide) (fun q => absurd q c_9) (fun _ => ?_)
        refine lv_iload_n hx hb dX7_leave_33 rfl (lv_at hl 4 rfl) ?_
        refine lv_iconst (v := (1 : Int32)) hx hb dX7_leave_34 (by decide) ?_
        refine lv_bipush (v := (6 : Int32)) hx hb dX7_leave_35 (by decide) ?_
        refine va_calli (va_runS (As := [.int p3, .int (1 : Int32), .int (6 : Int32)]) (rest := []) ⟨hx, hb, hml, hown, hts⟩ (met_X7_within l dC dI cI cZ cS H2.size p3 (1 : Int32) (6 : Int32)) (va_cwS 3 hts gX7_leave_X7_within rfl rfl rfl (by decide +kernel) ⟨Nat.le_of_ble_eq_true rfl, Nat.le_of_ble_eq_true rfl⟩) (pS (wc := []) hK hP hD hN [] rfl (by decide)) rfl rfl hl.1 rfl (lv_room (Nat.le_of_ble_eq_true rfl)) dX7_leave_37 ⟨Nat.zero_le _, Nat.zero_le _⟩) hS (fun q _ h => a0_in hS hA q h) (a0_in hS hA) (fun r28 u t H3 locs ht hvm hw hB hz1 hk1 hS => ?_)
        obtain ⟨hw, nb29⟩ := hw
        subst hw
        have hP := rdk hP hk1
        refine lv_if_eq (tgt := 52) hx hb dX7_leave_40 (by decide) (fun c_30 => ?_) (fun c_30 => ?_)
        · rw [if_pos c_30] at hR
          refine lv_iconst (v := (0 : Int32)) hx hb dX7_leave_52 (by decide) ?_
          refine lv_istore (lv' := [(5, .int (0 : Int32)), (4, .int (1 : Int32)), (0, .ref (aM 0)), (1, .int p1), (2, .int p2), (3, .int p3)]) hx hb dX7_leave_53 hl (by decide) rfl (fun ls hl => ?_)
          refine lv_aload_n hx hb dX7_leave_55 rfl (lv_at hl 2 rfl) ?_
          refine lv_iload hx hb dX7_leave_56 (lv_at hl 1 rfl) ?_
          refine lv_if_ne (tgt := 65) hx hb dX7_leave_58 (by decide) (fun _ => ?_) (fun q => absurd q (by decide))
          refine lv_iload hx hb dX7_leave_65 (lv_at hl 0 rfl) ?_
          refine lv_if_ne (tgt := 74) hx hb dX7_leave_67 (by decide) (fun q => absurd (by decide) q) (fun _ => ?_)
          refine lv_iconst (v := (2 : Int32)) hx hb dX7_leave_70 (by decide) ?_
          refine lv_goto (tgt := 75) hx hb dX7_leave_71 (by decide) ?_
          refine va_put (D := (dC, dI)) (ci := 7) (v := .int (2 : Int32)) (ty := .int) (C := RX7) (T := TX7) (N := 15) hx hb hts hin7 tyX7 tyX7_ok nmX7 hown hK hP hD hS 0 rfl rfl 7 (by decide) (hw_ hts 1 rfl) (fun _ h9 => h9) rfl (by decide +kernel) rfl rfl (Nat.le_of_ble_eq_true rfl) dX7_leave_75 (fun H4 locs hP hD hS => ?_)
          have hP : va_P (dC, dI) vwCl (wMo cI aM (pset M 7 (fun _ => (2 : Int32))) hs) H4 := hP
          have hD : va_D A (wMo cI aM (pset M 7 (fun _ => (2 : Int32))) hs) := hD
          refine lv_aload_n hx hb dX7_leave_78 rfl (lv_at hl 2 rfl) ?_
          refine va_get (D := (dC, dI)) (ci := 7) (v := .int (2 : Int32)) (C := RX7) (T := TX7) (N := 15) hx hb hts hin7 hown hK hP 0 rfl rfl 7 (by decide) (hw_ hts 1 rfl) (fun _ h9 => h9) rfl dX7_leave_79 ?_
          refine lv_if_ne (tgt := 104) hx hb dX7_leave_82 (by decide) (fun _ => ?_) (fun q => absurd q (by decide))
          refine lv_aload_n hx hb dX7_leave_104 rfl (lv_at hl 2 rfl) ?_
          refine va_get (D := (dC, dI)) (ci := 7) (v := .int (2 : Int32)) (C := RX7) (T := TX7) (N := 15) hx hb hts hin7 hown hK hP 0 rfl rfl 7 (by decide) (hw_ hts 1 rfl) (fun _ h9 => h9) rfl dX7_leave_105 ?_
          refine lv_if_le (tgt := 113) hx hb dX7_leave_108 (by decide) (fun q => absurd q (by decide)) (fun _ => ?_)
          refine lv_iconst (v := (0 : Int32)) hx hb dX7_leave_111 (by decide) ?_
          exact W.iret (v := (0 : Int32)) hx hb hr (fun t ht hW => ⟨⟨(0 : Int32), (pset M 7 (fun _ => (2 : Int32))), rfl, Option.some.inj hR, P_at ht hP⟩, hS.F ht⟩) hS.2.2 dX7_leave_112
        · rw [if_neg c_30] at hR
          refine lv_iload_n hx hb dX7_leave_43 rfl (lv_at hl 2 rfl) ?_
          refine lv_iload_n hx hb dX7_leave_44 rfl (lv_at hl 3 rfl) ?_
          refine lv_icmp_eq (tgt := 52) hx hb dX7_leave_45 (by decide) (fun c_31 => ?_) (fun c_31 => ?_)
          · rw [if_pos c_31] at hR
            refine lv_iconst (v := (0 : Int32)) hx hb dX7_leave_52 (by decide) ?_
            refine lv_istore (lv' := [(5, .int (0 : Int32)), (4, .int (1 : Int32)), (0, .ref (aM 0)), (1, .int p1), (2, .int p2), (3, .int p3)]) hx hb dX7_leave_53 hl (by decide) rfl (fun ls hl => ?_)
            refine lv_aload_n hx hb dX7_leave_55 rfl (lv_at hl 2 rfl) ?_
            refine lv_iload hx hb dX7_leave_56 (lv_at hl 1 rfl) ?_
            refine lv_if_ne (tgt := 65) hx hb dX7_leave_58 (by decide) (fun _ => ?_) (fun q => absurd q (by decide))
            refine lv_iload hx hb dX7_leave_65 (lv_at hl 0 rfl) ?_
            refine lv_if_ne (tgt := 74) hx hb dX7_leave_67 (by decide) (fun q => absurd (by decide) q) (fun _ => ?_)
            refine lv_iconst (v := (2 : Int32)) hx hb dX7_leave_70 (by decide) ?_
            refine lv_goto (tgt := 75) hx hb dX7_leave_71 (by decide) ?_
            refine va_put (D := (dC, dI)) (ci := 7) (v := .int (2 : Int32)) (ty := .int) (C := RX7) (T := TX7) (N := 15) hx hb hts hin7 tyX7 tyX7_ok nmX7 hown hK hP hD hS 0 rfl rfl 7 (by decide) (hw_ hts 1 rfl) (fun _ h9 => h9) rfl (by decide +kernel) rfl rfl (Nat.le_of_ble_eq_true rfl) dX7_leave_75 (fun H4 locs hP hD hS => ?_)
            have hP : va_P (dC, dI) vwCl (wMo cI aM (pset M 7 (fun _ => (2 : Int32))) hs) H4 := hP
            have hD : va_D A (wMo cI aM (pset M 7 (fun _ => (2 : Int32))) hs) := hD
            refine lv_aload_n hx hb dX7_leave_78 rfl (lv_at hl 2 rfl) ?_
            refine va_get (D := (dC, dI)) (ci := 7) (v := .int (2 : Int32)) (C := RX7) (T := TX7) (N := 15) hx hb hts hin7 hown hK hP 0 rfl rfl 7 (by decide) (hw_ hts 1 rfl) (fun _ h9 => h9) rfl dX7_leave_79 ?_
            refine lv_if_ne (tgt := 104) hx hb dX7_leave_82 (by decide) (fun _ => ?_) (fun q => absurd q (by decide))
            refine lv_aload_n hx hb dX7_leave_104 rfl (lv_at hl 2 rfl) ?_
            refine va_get (D := (dC, dI)) (ci := 7) (v := .int (2 : Int32)) (C := RX7) (T := TX7) (N := 15) hx hb hts hin7 hown hK hP 0 rfl rfl 7 (by decide) (hw_ hts 1 rfl) (fun _ h9 => h9) rfl dX7_leave_105 ?_
            refine lv_if_le (tgt := 113) hx hb dX7_leave_108 (by decide) (fun q => absurd q (by decide)) (fun _ => ?_)
            refine lv_iconst (v := (0 : Int32)) hx hb dX7_leave_111 (by decide) ?_
            exact W.iret (v := (0 : Int32)) hx hb hr (fun t ht hW => ⟨⟨(0 : Int32), (pset M 7 (fun _ => (2 : Int32))), rfl, Option.some.inj hR, P_at ht hP⟩, hS.F ht⟩) hS.2.2 dX7_leave_112
          · rw [if_neg c_31] at hR
            refine lv_iconst (v := (1 : Int32)) hx hb dX7_leave_48 (by decide) ?_
            refine lv_goto (tgt := 53) hx hb dX7_leave_49 (by decide) ?_
            refine lv_istore (lv' := [(5, .int (1 : Int32)), (4, .int (1 : Int32)), (0, .ref (aM 0)), (1, .int p1), (2, .int p2), (3, .int p3)]) hx hb dX7_leave_53 hl (by decide) rfl (fun ls hl => ?_)
            refine lv_aload_n hx hb dX7_leave_55 rfl (lv_at hl 2 rfl) ?_
            refine lv_iload hx hb dX7_leave_56 (lv_at hl 1 rfl) ?_
            refine lv_if_ne (tgt := 65) hx hb dX7_leave_58 (by decide) (fun _ => ?_) (fun q => absurd q (by decide))
            refine lv_iload hx hb dX7_leave_65 (lv_at hl 0 rfl) ?_
            refine lv_if_ne (tgt := 74) hx hb dX7_leave_67 (by decide) (fun _ => ?_) (fun q => absurd q (by decide))
            refine lv_iconst (v := (0 : Int32)) hx hb dX7_leave_74 (by decide) ?_
            refine va_put (D := (dC, dI)) (ci := 7) (v := .int (0 : Int32)) (ty := .int) (C := RX7) (T := TX7) (N := 15) hx hb hts hin7 tyX7 tyX7_ok nmX7 hown hK hP hD hS 0 rfl rfl 7 (by decide) (hw_ hts 1 rfl) (fun _ h9 => h9) rfl (by decide +kernel) rfl rfl (Nat.le_of_ble_eq_true rfl) dX7_leave_75 (fun H4 locs hP hD hS => ?_)
            have hP : va_P (dC, dI) vwCl (wMo cI aM (pset M 7 (fun _ => (0 : Int32))) hs) H4 := hP
            have hD : va_D A (wMo cI aM (pset M 7 (fun _ => (0 : Int32))) hs) := hD
            refine lv_aload_n hx hb dX7_leave_78 rfl (lv_at hl 2 rfl) ?_
            refine va_get (D := (dC, dI)) (ci := 7) (v := .int (0 : Int32)) (C := RX7) (T := TX7) (N := 15) hx hb hts hin7 hown hK hP 0 rfl rfl 7 (by decide) (hw_ hts 1 rfl) (fun _ h9 => h9) rfl dX7_leave_79 ?_
            refine lv_if_ne (tgt := 104) hx hb dX7_leave_82 (by decide) (fun q => absurd (by decide) q) (fun _ => ?_)
            refine lv_aload_n hx hb dX7_leave_85 rfl (lv_at hl 2 rfl) ?_
            refine lv_aload_n hx hb dX7_leave_86 rfl (lv_at hl 2 rfl) ?_
            refine lv_iload_n hx hb dX7_leave_87 rfl (lv_at hl 3 rfl) ?_
            refine lv_iload_n hx hb dX7_leave_88 rfl (lv_at hl 4 rfl) ?_
            refine lv_iload_n hx hb dX7_leave_89 rfl (lv_at hl 5 rfl) ?_
            obtain ⟨r32, u33, hc34, hR⟩ := ob2_e hR
            have hF := va_free (wc := wMo cI aM (pset M 7 (fun _ => (0 : Int32))) hs) hD hS hA [0, 1, 2, 3, 4, 5, 6, 7, 8] rfl
            refine va_calli (va_runV (As := [.int p1, .int p2, .int p3]) (rest := [.ref (aM 0)]) ⟨hx, hb, hml, hown, hts⟩ (met_X7_soundThen l dC dI cI cZ cS aM (pset M 7 (fun _ => (0 : Int32))) hs H4.size p1 p2 p3 (r32, u33) hc34) (cwV 3 hts gX7_leave_X7_soundThen rfl rfl rfl (by decide +kernel) ⟨Nat.le_of_ble_eq_true rfl, Nat.le_of_ble_eq_true rfl⟩) (pV (wc := wMo cI aM (pset M 7 (fun _ => (0 : Int32))) hs) (ci := 7) (q0 := 0) hK hP hD hN [0, 1, 2, 3, 4, 5, 6, 7, 8] rfl (by decide) rfl rfl) rfl rfl hl.1 rfl (lv_room (Nat.le_of_ble_eq_true rfl)) dX7_leave_90 ⟨Nat.zero_le _, Nat.zero_le _⟩) hS (fun q _ h => hF q h) hF (fun r32 u33 t H5 locs ht hvm hw hB hz1 hk1 hS => ?_)
            obtain ⟨hw, nb35⟩ := hw
            try dsimp only at hw hB
            rw [ht] at hB
            cases hw
            have hP := wrk (w2 := wMo cI aM u33 hs) hP hD [0, 1, 2, 3, 4, 5, 6, 7, 8] rfl (by decide) hk1 hB rfl rfl
            have hD := D_addr (w1 := wMo cI aM u33 hs) hD rfl
            refine lv_if_eq (tgt := 100) hx hb dX7_leave_93 (by decide) (fun c_36 => ?_) (fun c_36 => ?_)
            · rw [if_pos c_36] at hR
              refine lv_iconst (v := (3 : Int32)) hx hb dX7_leave_100 (by decide) ?_
              refine va_put (D := (dC, dI)) (ci := 7) (v := .int (3 : Int32)) (ty := .int) (C := RX7) (T := TX7) (N := 15) hx hb hts hin7 tyX7 tyX7_ok nmX7 hown hK hP hD hS 0 rfl rfl 7 (by decide) (hw_ hts 1 rfl) (fun _ h9 => h9) rfl (by decide +kernel) rfl rfl (Nat.le_of_ble_eq_true rfl) dX7_leave_101 (fun H6 locs hP hD hS => ?_)
              have hP : va_P (dC, dI) vwCl (wMo cI aM (pset u33 7 (fun _ => (3 : Int32))) hs) H6 := hP
              have hD : va_D A (wMo cI aM (pset u33 7 (fun _ => (3 : Int32))) hs) := hD
              refine lv_aload_n hx hb dX7_leave_104 rfl (lv_at hl 2 rfl) ?_
              refine va_get (D := (dC, dI)) (ci := 7) (v := .int (3 : Int32)) (C := RX7) (T := TX7) (N := 15) hx hb hts hin7 hown hK hP 0 rfl rfl 7 (by decide) (hw_ hts 1 rfl) (fun _ h9 => h9) rfl dX7_leave_105 ?_
              refine lv_if_le (tgt := 113) hx hb dX7_leave_108 (by decide) (fun q => absurd q (by decide)) (fun _ => ?_)
              refine lv_iconst (v := (0 : Int32)) hx hb dX7_leave_111 (by decide) ?_
              exact W.iret (v := (0 : Int32)) hx hb hr (fun t ht hW => ⟨⟨(0 : Int32), (pset u33 7 (fun _ => (3 : Int32))), rfl, Option.some.inj hR, P_at ht hP⟩, hS.F ht⟩) hS.2.2 dX7_leave_112
            · rw [if_neg c_36] at hR
              refine lv_iconst (v := (0 : Int32)) hx hb dX7_leave_96 (by decide) ?_
              refine lv_goto (tgt := 101) hx hb dX7_leave_97 (by decide) ?_
              refine va_put (D := (dC, dI)) (ci := 7) (v := .int (0 : Int32)) (ty := .int) (C := RX7) (T := TX7) (N := 15) hx hb hts hin7 tyX7 tyX7_ok nmX7 hown hK hP hD hS 0 rfl rfl 7 (by decide) (hw_ hts 1 rfl) (fun _ h9 => h9) rfl (by decide +kernel) rfl rfl (Nat.le_of_ble_eq_true rfl) dX7_leave_101 (fun H6 locs hP hD hS => ?_)
              have hP : va_P (dC, dI) vwCl (wMo cI aM (pset u33 7 (fun _ => (0 : Int32))) hs) H6 := hP
              have hD : va_D A (wMo cI aM (pset u33 7 (fun _ => (0 : Int32))) hs) := hD
              refine lv_aload_n hx hb dX7_leave_104 rfl (lv_at hl 2 rfl) ?_
              refine va_get (D := (dC, dI)) (ci := 7) (v := .int (0 : Int32)) (C := RX7) (T := TX7) (N := 15) hx hb hts hin7 hown hK hP 0 rfl rfl 7 (by decide) (hw_ hts 1 rfl) (fun _ h9 => h9) rfl dX7_leave_105 ?_
              refine lv_if_le (tgt := 113) hx hb dX7_leave_108 (by decide) (fun _ => ?_) (fun q => absurd (by decide) q)
              refine lv_aload_n hx hb dX7_leave_113 rfl (lv_at hl 2 rfl) ?_
              obtain ⟨u37, hc38, hR⟩ := ob1_e hR
              have hF := va_free (wc := wMo cI aM (pset u33 7 (fun _ => (0 : Int32))) hs) hD hS hA [0, 1, 2, 3, 4, 5, 6, 7, 8] rfl
              refine va_callv (va_runV (As := []) (rest := []) ⟨hx, hb, hml, hown, hts⟩ (met_X7_save l dC dI cI cZ cS aM (pset u33 7 (fun _ => (0 : Int32))) hs H6.size u37 hc38) (cwV 0 hts gX7_leave_X7_save rfl rfl rfl (by decide +kernel) ⟨Nat.le_of_ble_eq_true rfl, Nat.le_of_ble_eq_true rfl⟩) (pV (wc := wMo cI aM (pset u33 7 (fun _ => (0 : Int32))) hs) (ci := 7) (q0 := 0) hK hP hD hN [0, 1, 2, 3, 4, 5, 6, 7, 8] rfl (by decide) rfl rfl) rfl rfl hl.1 rfl (lv_room (Nat.le_of_ble_eq_true rfl)) dX7_leave_114 ⟨Nat.zero_le _, Nat.zero_le _⟩) hS (fun q _ h => hF q h) hF (fun  u37 t H7 locs ht hvm hw hB hz1 hk1 hS => ?_)
              try dsimp only at hw hB
              rw [ht] at hB
              cases hw
              have hP := wrk (w2 := wMo cI aM u37 hs) hP hD [0, 1, 2, 3, 4, 5, 6, 7, 8] rfl (by decide) hk1 hB rfl rfl
              have hD := D_addr (w1 := wMo cI aM u37 hs) hD rfl
              refine lv_aload_n hx hb dX7_leave_117 rfl (lv_at hl 2 rfl) ?_
              refine lv_iload_n hx hb dX7_leave_118 rfl (lv_at hl 3 rfl) ?_
              refine lv_iconst (v := (4 : Int32)) hx hb dX7_leave_119 (by decide) ?_
              obtain ⟨r39, hc40, hR⟩ := ob1_e hR
              refine va_calli (va_runV (As := [.int p1, .int (4 : Int32)]) (rest := []) ⟨hx, hb, hml, hown, hts⟩ (met_X7_of l dC dI cI cZ cS aM u37 hs H7.size p1 (4 : Int32) r39 hc40) (cwV 2 hts gX7_leave_X7_of rfl rfl rfl (by decide +kernel) ⟨Nat.le_of_ble_eq_true rfl, Nat.le_of_ble_eq_true rfl⟩) (pV (wc := wMo cI aM u37 hs) (ci := 7) (q0 := 0) hK hP hD hN [0, 1, 2, 3, 4, 5, 6, 7, 8] rfl (by decide) rfl rfl) rfl rfl hl.1 rfl (lv_room (Nat.le_of_ble_eq_true rfl)) dX7_leave_120 ⟨Nat.zero_le _, Nat.zero_le _⟩) hS (fun q _ h => a0_in hS hA q h) (a0_in hS hA) (fun r39 u t H8 locs ht hvm hw hB hz1 hk1 hS => ?_)
              cases hw
              have hP := rdk hP hk1
              refine lv_istore (lv' := [(6, .int r39), (5, .int (1 : Int32)), (4, .int (1 : Int32)), (0, .ref (aM 0)), (1, .int p1), (2, .int p2), (3, .int p3)]) hx hb dX7_leave_123 hl (by decide) rfl (fun ls hl => ?_)
              refine lv_aload_n hx hb dX7_leave_125 rfl (lv_at hl 3 rfl) ?_
              refine lv_iload_n hx hb dX7_leave_126 rfl (lv_at hl 4 rfl) ?_
              refine lv_iload_n hx hb dX7_leave_127 rfl (lv_at hl 5 rfl) ?_
              refine lv_iload_n hx hb dX7_leave_128 rfl (lv_at hl 6 rfl) ?_
              obtain ⟨u41, hc42, hR⟩ := ob1_e hR
              have hF := va_free (wc := wMo cI aM u37 hs) hD hS hA [0, 1, 2, 3, 4, 5, 6, 7, 8] rfl
              refine va_callv (va_runV (As := [.int p1, .int p2, .int p3]) (rest := []) ⟨hx, hb, hml, hown, hts⟩ (met_X7_setLeft l dC dI cI cZ cS aM u37 hs H8.size p1 p2 p3 u41 hc42) (cwV 3 hts gX7_leave_X7_setLeft rfl rfl rfl (by decide +kernel) ⟨Nat.le_of_ble_eq_true rfl, Nat.le_of_ble_eq_true rfl⟩) (pV (wc := wMo cI aM u37 hs) (ci := 7) (q0 := 0) hK hP hD hN [0, 1, 2, 3, 4, 5, 6, 7, 8] rfl (by decide) rfl rfl) rfl rfl hl.1 rfl (lv_room (Nat.le_of_ble_eq_true rfl)) dX7_leave_129 ⟨Nat.zero_le _, Nat.zero_le _⟩) hS (fun q _ h => hF q h) hF (fun  u41 t H9 locs ht hvm hw hB hz1 hk1 hS => ?_)
              try dsimp only at hw hB
              rw [ht] at hB
              cases hw
              have hP := wrk (w2 := wMo cI aM u41 hs) hP hD [0, 1, 2, 3, 4, 5, 6, 7, 8] rfl (by decide) hk1 hB rfl rfl
              have hD := D_addr (w1 := wMo cI aM u41 hs) hD rfl
              refine lv_iload hx hb dX7_leave_132 (lv_at hl 0 rfl) ?_
              exact W.iret (v := r39) hx hb hr (fun t ht hW => ⟨⟨r39, u41, rfl, Option.some.inj hR, P_at ht hP⟩, hS.F ht⟩) hS.2.2 dX7_leave_134
abbrev rm_X7_addGuest : Room := { frames := 1, cells := 0, slots := 0, locals := 21 }
abbrev q_X7_addGuest (dC : Nat → ClassId) (dI : Nat → Nat → Nat) (cI cZ cS : ClassId) (aM : Nat → Nat) (hs : Int64) (res : Int32 × Pic) (A : Nat → Prop) : Array Value → State → Outcome → State → Prop := va_Qi (fun (r : Int32) (u : Pic) => (r, u) = res) (fun u t => va_P (dC, dI) vwCl (wMo cI aM u hs) t.heap) A
set_option maxHeartbeats 4000000 in
set_option maxRecDepth 100000 in
theorem met_X7_addGuest (l : Launch) (dC : Nat → ClassId) (dI : Nat → Nat → Nat) (cI cZ cS : ClassId) (aM : Nat → Nat) (M : Pic) (hs : Int64) (sz : Nat)  (res : Int32 × Pic) (hR : f7_addGuest M = some res) : Met l yX7_addGuest wsX7_addGuest rm_X7_addGuest (va_Pc [.ref (aM 0)] (pW (dC, dI) (tyS cI cZ cS) (wMo cI aM M hs) sz)) (q_X7_addGuest dC dI cI cZ cS aM hs res (va_A (wMo cI aM M hs) sz)) 0 0 (va_A (wMo cI aM M hs) sz) := by
  refine Met.ofW (cc := cX7_addGuest) (maxL := 1) (ret := (some .int)) (by decide) rfl ?_
  intro p e s m args below meth c s₁ B hml hv
  obtain ⟨rfl, hsz, hP, hK, hD0, hN⟩ := hv
  have hx := B.exec
  have hb := B.bytes
  have hr := B.returns
  have hts := atoms_spec (ws := wsX7_addGuest) B.pre
  have hown : s.vm.findClass RX7 = some m.cls := findClass_of_methodNamed B.named
  have hlocks := B.notSynchronized
  subst hsz
  have hD := hD0.self (sz := s.heap.size)
  generalize hAe : va_A (wMo cI aM M hs) s.heap.size = A at hD ⊢
  have hA : ∀ q : Nat, s.heap.size ≤ q → A q := fun q h => by rw [← hAe]; exact Or.inr h
  have hS : va_S A s.heap s.heap [] := va_S.rf
  have hP : va_P (dC, dI) vwCl (wMo cI aM M hs) s.heap := hP
  rw [f7_addGuest] at hR
  have hin7 : ∀ w ∈ wsX70, w ∈ wsX7_addGuest := by decide +kernel
  have hl := lv_entry ([.ref (aM 0)]) (n := 1) (Nat.le_of_ble_eq_true rfl)
  rw [lg_entry_eq]
  generalize (lg_sl ([.ref (aM 0)]) ++ List.replicate (1 - (lg_sl ([.ref (aM 0)])).length) Slot.unset).toArray = ls at hl ⊢
  have hl : lv_has ls 1 [(0, .ref (aM 0))] := hl
  refine lv_aload_n hx hb dX7_addGuest_0 rfl (lv_at hl 0 rfl) ?_
  refine lv_aload_n hx hb dX7_addGuest_1 rfl (lv_at hl 0 rfl) ?_
  refine va_get (D := (dC, dI)) (ci := 7) (v := .ref (aM 1)) (C := RX7) (T := TX7) (N := 15) hx hb hts hin7 hown hK hP 0 rfl rfl 0 (by decide) (hw_ hts 1 rfl) (fun _ h9 => h9) rfl dX7_addGuest_2 ?_
  refine lv_iconst (v := (4 : Int32)) hx hb dX7_addGuest_5 (by decide) ?_
  refine va_iald (f := (M 0)) hx hb hK hP 1 0 rfl rfl (vp_in_nI (n := 4) (by decide) (by decide)) dX7_addGuest_6 ?_
  refine lv_bipush (v := (6 : Int32)) hx hb dX7_addGuest_7 (by decide) ?_
  refine lv_icmp_ne (tgt := 16) hx hb dX7_addGuest_9 (by decide) (fun c_1 => ?_) (fun c_1 => ?_)
  · rw [if_neg c_1] at hR
    refine lv_iconst (v := (0 : Int32)) hx hb dX7_addGuest_16 (by decide) ?_
    refine va_put (D := (dC, dI)) (ci := 7) (v := .int (0 : Int32)) (ty := .int) (C := RX7) (T := TX7) (N := 15) hx hb hts hin7 tyX7 tyX7_ok nmX7 hown hK hP hD hS 0 rfl rfl 7 (by decide) (hw_ hts 2 rfl) (fun _ h9 => h9) rfl (by decide +kernel) rfl rfl (Nat.le_of_ble_eq_true rfl) dX7_addGuest_17 (fun H1 locs hP hD hS => ?_)
    have hP : va_P (dC, dI) vwCl (wMo cI aM (pset M 7 (fun _ => (0 : Int32))) hs) H1 := hP
    have hD : va_D A (wMo cI aM (pset M 7 (fun _ => (0 : Int32))) hs) := hD
    refine lv_aload_n hx hb dX7_addGuest_20 rfl (lv_at hl 0 rfl) ?_
    refine va_get (D := (dC, dI)) (ci := 7) (v := .int (0 : Int32)) (C := RX7) (T := TX7) (N := 15) hx hb hts hin7 hown hK hP 0 rfl rfl 7 (by decide) (hw_ hts 2 rfl) (fun _ h9 => h9) rfl dX7_addGuest_21 ?_
    refine lv_if_le (tgt := 29) hx hb dX7_addGuest_24 (by decide) (fun _ => ?_) (fun q => absurd (by decide) q)
    refine lv_aload_n hx hb dX7_addGuest_29 rfl (lv_at hl 0 rfl) ?_
    obtain ⟨u2, hc3, hR⟩ := ob1_e hR
    have hF := va_free (wc := wMo cI aM (pset M 7 (fun _ => (0 : Int32))) hs) hD hS hA [0, 1, 2, 3, 4, 5, 6, 7, 8] rfl
    refine va_callv (va_runV (As := []) (rest := []) ⟨hx, hb, hml, hown, hts⟩ (met_X7_save l dC dI cI cZ cS aM (pset M 7 (fun _ => (0 : Int32))) hs H1.size u2 hc3) (cwV 0 hts gX7_addGuest_X7_save rfl rfl rfl (by decide +kernel) ⟨Nat.le_of_ble_eq_true rfl, Nat.le_of_ble_eq_true rfl⟩) (pV (wc := wMo cI aM (pset M 7 (fun _ => (0 : Int32))) hs) (ci := 7) (q0 := 0) hK hP hD hN [0, 1, 2, 3, 4, 5, 6, 7, 8] rfl (by decide) rfl rfl) rfl rfl hl.1 rfl (lv_room (Nat.le_of_ble_eq_true rfl)) dX7_addGuest_30 ⟨Nat.zero_le _, Nat.zero_le _⟩) hS (fun q _ h => hF q h) hF (fun  u2 t H2 locs ht hvm hw hB hz1 hk1 hS => ?_)
    try dsimp only at hw hB
    rw [ht] at hB
    cases hw
    have hP := wrk (w2 := wMo cI aM u2 hs) hP hD [0, 1, 2, 3, 4, 5, 6, 7, 8] rfl (by decide) hk1 hB rfl rfl
    have hD := D_addr (w1 := wMo cI aM u2 hs) hD rfl
    refine lv_aload_n hx hb dX7_addGuest_33 rfl (lv_at hl 0 rfl) ?_
    refine va_get (D := (dC, dI)) (ci := 7) (v := .ref (aM 1)) (C := RX7) (T := TX7) (N := 15) hx hb hts hin7 hown hK hP 0 rfl rfl 0 (by decide) (hw_ hts 1 rfl) (fun _ h9 => h9) rfl dX7_addGuest_34 ?_
    refine lv_bipush (v := (77 : Int32)) hx hb dX7_addGuest_37 (by decide) ?_
    refine lv_iconst (v := (2 : Int32)) hx hb dX7_addGuest_39 (by decide) ?_
    refine lv_aload_n hx hb dX7_addGuest_40 rfl (lv_at hl 0 rfl) ?_
    refine va_get (D := (dC, dI)) (ci := 7) (v := .ref (aM 1)) (C := RX7) (T := TX7) (N := 15) hx hb hts hin7 hown hK hP 0 rfl rfl 0 (by decide) (hw_ hts 1 rfl) (fun _ h9 => h9) rfl dX7_addGuest_41 ?_
    refine lv_iconst (v := (4 : Int32)) hx hb dX7_addGuest_44 (by decide) ?_
    refine va_iald (f := (u2 0)) hx hb hK hP 1 0 rfl rfl (vp_in_nI (n := 4) (by decide) (by decide)) dX7_addGuest_45 ?_
    refine lv_imul hx hb dX7_addGuest_46 ?_
    refine lv_iadd hx hb dX7_addGuest_47 ?_
    refine lv_iconst (v := (0 : Int32)) hx hb dX7_addGuest_48 (by decide) ?_
    refine lv_iadd hx hb dX7_addGuest_49 ?_
    refine lv_bipush (v := (127 : Int32)) hx hb dX7_addGuest_50 (by decide) ?_
    obtain ⟨hix4, hR⟩ := ck_some hR
    refine va_iast (f := (u2 0)) hx hb hK hP hD hS 1 0 rfl rfl hix4 dX7_addGuest_52 (fun H3 locs hP hD hS => ?_)
    have hP : va_P (dC, dI) vwCl (wMo cI aM (pset u2 0 (upd (u2 0) (ix (((77 : Int32) + ((2 : Int32) * ((u2 0) (ix (4 : Int32))))) + (0 : Int32))) (127 : Int32))) hs) H3 := hP
    have hD : va_D A (wMo cI aM (pset u2 0 (upd (u2 0) (ix (((77 : Int32) + ((2 : Int32) * ((u2 0) (ix (4 : Int32))))) + (0 : Int32))) (127 : Int32))) hs) := hD
    obtain ⟨Mb5, hMb5⟩ : ∃ z : Pic, z = (pset u2 0 (upd (u2 0) (ix (((77 : Int32) + ((2 : Int32) * ((u2 0) (ix (4 : Int32))))) + (0 : Int32))) (127 : Int32))) := ⟨_, rfl⟩
    rw [← hMb5] at hP hD
    have hR := bd_n hMb5 hR
    refine lv_aload_n hx hb dX7_addGuest_53 rfl (lv_at hl 0 rfl) ?_
    refine va_get (D := (dC, dI)) (ci := 7) (v := .ref (aM 1)) (C := RX7) (T := TX7) (N := 15) hx hb hts hin7 hown hK hP 0 rfl rfl 0 (by decide) (hw_ hts 1 rfl) (fun _ h9 => h9) rfl dX7_addGuest_54 ?_
    refine lv_bipush (v := (77 : Int32)) hx hb dX7_addGuest_57 (by decide) ?_
    refine lv_iconst (v := (2 : Int32)) hx hb dX7_addGuest_59 (by decide) ?_
    refine lv_aload_n hx hb dX7_addGuest_60 rfl (lv_at hl 0 rfl) ?_
    refine va_get (D := (dC, dI)) (ci := 7) (v := .ref (aM 1)) (C := RX7) (T := TX7) (N := 15) hx hb hts hin7 hown hK hP 0 rfl rfl 0 (by decide) (hw_ hts 1 rfl) (fun _ h9 => h9) rfl dX7_addGuest_61 ?_
    refine lv_iconst (v := (4 : Int32)) hx hb dX7_addGuest_64 (by decide) ?_
    refine va_iald (f := (Mb5 0)) hx hb hK hP 1 0 rfl rfl (vp_in_nI (n := 4) (by decide) (by decide)) dX7_addGuest_65 ?_
    refine lv_imul hx hb dX7_addGuest_66 ?_
    refine lv_iadd hx hb dX7_addGuest_67 ?_
    refine lv_iconst (v := (1 : Int32)) hx hb dX7_addGuest_68 (by decide) ?_
    refine lv_iadd hx hb dX7_addGuest_69 ?_
    refine lv_iconst (v := (0 : Int32)) hx hb dX7_addGuest_70 (by decide) ?_
    obtain ⟨hix6, hR⟩ := ck_some hR
    refine va_iast (f := (Mb5 0)) hx hb hK hP hD hS 1 0 rfl rfl hix6 dX7_addGuest_71 (fun H4 locs hP hD hS => ?_)
    have hP : va_P (dC, dI) vwCl (wMo cI aM (pset Mb5 0 (upd (Mb5 0) (ix (((77 : Int32) + ((2 : Int32) * ((Mb5 0) (ix (4 : Int32))))) + (1 : Int32))) (0 : Int32))) hs) H4 := hP
    have hD : va_D A (wMo cI aM (pset Mb5 0 (upd (Mb5 0) (ix (((77 : Int32) + ((2 : Int32) * ((Mb5 0) (ix (4 : Int32))))) + (1 : Int32))) (0 : Int32))) hs) := hD
    obtain ⟨Mb7, hMb7⟩ : ∃ z : Pic, z = (pset Mb5 0 (upd (Mb5 0) (ix (((77 : Int32) + ((2 : Int32) * ((Mb5 0) (ix (4 : Int32))))) + (1 : Int32))) (0 : Int32))) := ⟨_, rfl⟩
    rw [← hMb7] at hP hD
    have hR := bd_n hMb7 hR
    refine lv_aload_n hx hb dX7_addGuest_72 rfl (lv_at hl 0 rfl) ?_
    refine va_get (D := (dC, dI)) (ci := 7) (v := .ref (aM 1)) (C := RX7) (T := TX7) (N := 15) hx hb hts hin7 hown hK hP 0 rfl rfl 0 (by decide) (hw_ hts 1 rfl) (fun _ h9 => h9) rfl dX7_addGuest_73 ?_
    refine lv_iconst (v := (4 : Int32)) hx hb dX7_addGuest_76 (by decide) ?_
    refine lv_dup2_11 hx hb dX7_addGuest_77 rfl rfl ?_
    refine va_iald (f := (Mb7 0)) hx hb hK hP 1 0 rfl rfl (vp_in_nI (n := 4) (by decide) (by decide)) dX7_addGuest_78 ?_
    refine lv_iconst (v := (1 : Int32)) hx hb dX7_addGuest_79 (by decide) ?_
    refine lv_iadd hx hb dX7_addGuest_80 ?_
    refine va_iast (f := (Mb7 0)) hx hb hK hP hD hS 1 0 rfl rfl (vp_in_nI (n := 4) (by decide) (by decide)) dX7_addGuest_81 (fun H5 locs hP hD hS => ?_)
    have hP : va_P (dC, dI) vwCl (wMo cI aM (pset Mb7 0 (upd (Mb7 0) (ix (4 : Int32)) (((Mb7 0) (ix (4 : Int32))) + (1 : Int32)))) hs) H5 := hP
    have hD : va_D A (wMo cI aM (pset Mb7 0 (upd (Mb7 0) (ix (4 : Int32)) (((Mb7 0) (ix (4 : Int32))) + (1 : Int32)))) hs) := hD
    obtain ⟨Mb8, hMb8⟩ : ∃ z : Pic, z = (pset Mb7 0 (upd (Mb7 0) (ix (4 : Int32)) (((Mb7 0) (ix (4 : Int32))) + (1 : Int32)))) := ⟨_, rfl⟩
    rw [← hMb8] at hP hD
    have hR := bd_n hMb8 hR
    refine lv_aload_n hx hb dX7_addGuest_82 rfl (lv_at hl 0 rfl) ?_
    refine va_get (D := (dC, dI)) (ci := 7) (v := .ref (aM 1)) (C := RX7) (T := TX7) (N := 15) hx hb hts hin7 hown hK hP 0 rfl rfl 0 (by decide) (hw_ hts 1 rfl) (fun _ h9 => h9) rfl dX7_addGuest_83 ?_
    refine lv_iconst (v := (4 : Int32)) hx hb dX7_addGuest_86 (by decide) ?_
    refine va_iald (f := (Mb8 0)) hx hb hK hP 1 0 rfl rfl (vp_in_nI (n := 4) (by decide) (by decide)) dX7_addGuest_87 ?_
    refine lv_iconst (v := (1 : Int32)) hx hb dX7_addGuest_88 (by decide) ?_
    refine lv_isub hx hb dX7_addGuest_89 ?_
    exact W.iret (v := (((Mb8 0) (ix (4 : Int32))) - (1 : Int32))) hx hb hr (fun t ht hW => ⟨⟨(((Mb8 0) (ix (4 : Int32))) - (1 : Int32)), Mb8, rfl, Option.some.inj hR, P_at ht hP⟩, hS.F ht⟩) hS.2.2 dX7_addGuest_90
  · rw [if_pos c_1] at hR
    refine lv_iconst (v := (1 : Int32)) hx hb dX7_addGuest_12 (by decide) ?_
    refine lv_goto (tgt := 17) hx hb dX7_addGuest_13 (by decide) ?_
    refine va_put (D := (dC, dI)) (ci := 7) (v := .int (1 : Int32)) (ty := .int) (C := RX7) (T := TX7) (N := 15) hx hb hts hin7 tyX7 tyX7_ok nmX7 hown hK hP hD hS 0 rfl rfl 7 (by decide) (hw_ hts 2 rfl) (fun _ h9 => h9) rfl (by decide +kernel) rfl rfl (Nat.le_of_ble_eq_true rfl) dX7_addGuest_17 (fun H1 locs hP hD hS => ?_)
    have hP : va_P (dC, dI) vwCl (wMo cI aM (pset M 7 (fun _ => (1 : Int32))) hs) H1 := hP
    have hD : va_D A (wMo cI aM (pset M 7 (fun _ => (1 : Int32))) hs) := hD
    refine lv_aload_n hx hb dX7_addGuest_20 rfl (lv_at hl 0 rfl) ?_
    refine va_get (D := (dC, dI)) (ci := 7) (v := .int (1 : Int32)) (C := RX7) (T := TX7) (N := 15) hx hb hts hin7 hown hK hP 0 rfl rfl 7 (by decide) (hw_ hts 2 rfl) (fun _ h9 => h9) rfl dX7_addGuest_21 ?_
    refine lv_if_le (tgt := 29) hx hb dX7_addGuest_24 (by decide) (fun q => absurd q (by decide)) (fun _ => ?_)
    refine lv_iconst (v := (0 : Int32)) hx hb dX7_addGuest_27 (by decide) ?_
    exact W.iret (v := (0 : Int32)) hx hb hr (fun t ht hW => ⟨⟨(0 : Int32), (pset M 7 (fun _ => (1 : Int32))), rfl, Option.some.inj hR, P_at ht hP⟩, hS.F ht⟩) hS.2.2 dX7_addGuest_28
abbrev rm_X7_vetoedThen : Room := { frames := 4, cells := 0, slots := 0, locals := 89 }
abbrev q_X7_vetoedThen (dC : Nat → ClassId) (dI : Nat → Nat → Nat) (cI cZ cS : ClassId) (aM : Nat → Nat) (hs : Int64) (res : Int32 × Pic) (A : Nat → Prop) : Array Value → State → Outcome → State → Prop := va_Qi (fun (r : Int32) (u : Pic) => (r, u) = res ∧ narrow .boolean (.int r) = .int r) (fun u t => va_P (dC, dI) vwCl (wMo cI aM u hs) t.heap) A
set_option maxHeartbeats 4000000 in
set_option maxRecDepth 100000 in
theorem met_X7_vetoedThen (l : Launch) (dC : Nat → ClassId) (dI : Nat → Nat → Nat) (cI cZ cS : ClassId) (aM : Nat → Nat) (M : Pic) (hs : Int64) (sz : Nat) (p1 : Int32) (p2 : Int32) (p3 : Int32) (res : Int32 × Pic) (hR : f7_vetoedThen M p1 p2 p3 = some res) : Met l yX7_vetoedThen wsX7_vetoedThen rm_X7_vetoedThen (va_Pc [.ref (aM 0), .int p1, .int p2, .int p3] (pW (dC, dI) (tyS cI cZ cS) (wMo cI aM M hs) sz)) (q_X7_vetoedThen dC dI cI cZ cS aM hs res (va_A (wMo cI aM M hs) sz)) 0 0 (va_A (wMo cI aM M hs) sz) := by
  refine Met.ofW (cc := cX7_vetoedThen) (maxL := 6) (ret := (some .boolean)) (by decide) rfl ?_
  intro p e s m args below meth c s₁ B hml hv
  obtain ⟨rfl, hsz, hP, hK, hD0, hN⟩ := hv
  have hx := B.exec
  have hb := B.bytes
  have hr := B.returns
  have hts := atoms_spec (ws := wsX7_vetoedThen) B.pre
  have hown : s.vm.findClass RX7 = some m.cls := findClass_of_methodNamed B.named
  have hlocks := B.notSynchronized
  subst hsz
  have hD := hD0.self (sz := s.heap.size)
  generalize hAe : va_A (wMo cI aM M hs) s.heap.size = A at hD ⊢
  have hA : ∀ q : Nat, s.heap.size ≤ q → A q := fun q h => by rw [← hAe]; exact Or.inr h
  have hS : va_S A s.heap s.heap [] := va_S.rf
  have hP : va_P (dC, dI) vwCl (wMo cI aM M hs) s.heap := hP
  rw [f7_vetoedThen] at hR
  have hin7 : ∀ w ∈ wsX70, w ∈ wsX7_vetoedThen := by decide +kernel
  have hl := lv_entry ([.ref (aM 0), .int p1, .int p2, .int p3]) (n := 6) (Nat.le_of_ble_eq_true rfl)
  rw [lg_entry_eq]
  generalize (lg_sl ([.ref (aM 0), .int p1, .int p2, .int p3]) ++ List.replicate (6 - (lg_sl ([.ref (aM 0), .int p1, .int p2, .int p3])).length) Slot.unset).toArray = ls at hl ⊢
  have hl : lv_has ls 6 [(0, .ref (aM 0)), (1, .int p1), (2, .int p2), (3, .int p3)] := hl
  refine lv_aload_n hx hb dX7_vetoedThen_0 rfl (lv_at hl 0 rfl) ?_
  refine lv_iload_n hx hb dX7_vetoedThen_1 rfl (lv_at hl 1 rfl) ?_
  refine lv_iload_n hx hb dX7_vetoedThen_2 rfl (lv_at hl 2 rfl) ?_
  obtain ⟨r1, hc2, hR⟩ := ob1_e hR
  refine va_calli (va_runV (As := [.int p1, .int p2]) (rest := []) ⟨hx, hb, hml, hown, hts⟩ (met_X7_ofGuest l dC dI cI cZ cS aM M hs s.heap.size p1 p2 r1 hc2) (cwV 2 hts gX7_vetoedThen_X7_ofGuest rfl rfl rfl (by decide +kernel) ⟨Nat.le_of_ble_eq_true rfl, Nat.le_of_ble_eq_true rfl⟩) (pV (wc := wMo cI aM M hs) (ci := 7) (q0 := 0) hK hP hD hN [0, 1, 2, 3, 4, 5, 6, 7, 8] rfl (by decide) rfl rfl) rfl rfl hl.1 rfl (lv_room (Nat.le_of_ble_eq_true rfl)) dX7_vetoedThen_3 ⟨Nat.zero_le _, Nat.zero_le _⟩) hS (fun q _ h => a0_in hS hA q h) (a0_in hS hA) (fun r1 u t H1 locs ht hvm hw hB hz1 hk1 hS => ?_)
  cases hw
  have hP := rdk hP hk1
  refine lv_istore (lv' := [(4, .int r1), (0, .ref (aM 0)), (1, .int p1), (2, .int p2), (3, .int p3)]) hx hb dX7_vetoedThen_6 hl (by decide) rfl (fun ls hl => ?_)
  refine lv_aload_n hx hb dX7_vetoedThen_8 rfl (lv_at hl 1 rfl) ?_
  refine va_get (D := (dC, dI)) (ci := 7) (v := .ref (aM 1)) (C := RX7) (T := TX7) (N := 15) hx hb hts hin7 hown hK hP 0 rfl rfl 0 (by decide) (hw_ hts 1 rfl) (fun _ h9 => h9) rfl dX7_vetoedThen_9 ?_
  refine lv_bipush (v := (77 : Int32)) hx hb dX7_vetoedThen_12 (by decide) ?_
  refine lv_iconst (v := (2 : Int32)) hx hb dX7_vetoedThen_14 (by decide) ?_
  refine lv_iload_n hx hb dX7_vetoedThen_15 rfl (lv_at hl 2 rfl) ?_
  refine lv_imul hx hb dX7_vetoedThen_16 ?_
  refine lv_iadd hx hb dX7_vetoedThen_17 ?_
  refine lv_iload_n hx hb dX7_vetoedThen_18 rfl (lv_at hl 3 rfl) ?_
  refine lv_iadd hx hb dX7_vetoedThen_19 ?_
  refine lv_iload_n hx hb dX7_vetoedThen_20 rfl (lv_at hl 4 rfl) ?_
  obtain ⟨hix3, hR⟩ := ck_some hR
  refine va_iast (f := (M 0)) hx hb hK hP hD hS 1 0 rfl rfl hix3 dX7_vetoedThen_21 (fun H2 locs hP hD hS => ?_)
  have hP : va_P (dC, dI) vwCl (wMo cI aM (pset M 0 (upd (M 0) (ix (((77 : Int32) + ((2 : Int32) * p1)) + p2)) p3)) hs) H2 := hP
  have hD : va_D A (wMo cI aM (pset M 0 (upd (M 0) (ix (((77 : Int32) + ((2 : Int32) * p1)) + p2)) p3)) hs) := hD
  obtain ⟨Mb4, hMb4⟩ : ∃ z : Pic, z = (pset M 0 (upd (M 0) (ix (((77 : Int32) + ((2 : Int32) * p1)) + p2)) p3)) := ⟨_, rfl⟩
  rw [← hMb4] at hP hD
  have hR := bd_n hMb4 hR
  refine lv_aload_n hx hb dX7_vetoedThen_22 rfl (lv_at hl 1 rfl) ?_
  obtain ⟨r5, hc6, hR⟩ := ob1_e hR
  refine va_calli (va_runV (As := []) (rest := []) ⟨hx, hb, hml, hown, hts⟩ (met_X7_someVetoed l dC dI cI cZ cS aM Mb4 hs H2.size r5 hc6) (cwV 0 hts gX7_vetoedThen_X7_someVetoed rfl rfl rfl (by decide +kernel) ⟨Nat.le_of_ble_eq_true rfl, Nat.le_of_ble_eq_true rfl⟩) (pV (wc := wMo cI aM Mb4 hs) (ci := 7) (q0 := 0) hK hP hD hN [0, 1, 2, 3, 4, 5, 6, 7, 8] rfl (by decide) rfl rfl) rfl rfl hl.1 rfl (lv_room (Nat.le_of_ble_eq_true rfl)) dX7_vetoedThen_23 ⟨Nat.zero_le _, Nat.zero_le _⟩) hS (fun q _ h => a0_in hS hA q h) (a0_in hS hA) (fun r5 u t H3 locs ht hvm hw hB hz1 hk1 hS => ?_)
  obtain ⟨hw, nb7⟩ := hw
  cases hw
  have hP := rdk hP hk1
  refine lv_istore (lv' := [(5, .int r5), (4, .int r1), (0, .ref (aM 0)), (1, .int p1), (2, .int p2), (3, .int p3)]) hx hb dX7_vetoedThen_26 hl (by decide) rfl (fun ls hl => ?_)
  refine lv_aload_n hx hb dX7_vetoedThen_28 rfl (lv_at hl 2 rfl) ?_
  refine va_get (D := (dC, dI)) (ci := 7) (v := .ref (aM 1)) (C := RX7) (T := TX7) (N := 15) hx hb hts hin7 hown hK hP 0 rfl rfl 0 (by decide) (hw_ hts 1 rfl) (fun _ h9 => h9) rfl dX7_vetoedThen_29 ?_
  refine lv_bipush (v := (77 : Int32)) hx hb dX7_vetoedThen_32 (by decide) ?_
  refine lv_iconst (v := (2 : Int32)) hx hb dX7_vetoedThen_34 (by decide) ?_
  refine lv_iload_n hx hb dX7_vetoedThen_35 rfl (lv_at hl 3 rfl) ?_
  refine lv_imul hx hb dX7_vetoedThen_36 ?_
  refine lv_iadd hx hb dX7_vetoedThen_37 ?_
  refine lv_iload_n hx hb dX7_vetoedThen_38 rfl (lv_at hl 4 rfl) ?_
  refine lv_iadd hx hb dX7_vetoedThen_39 ?_
  refine lv_iload hx hb dX7_vetoedThen_40 (lv_at hl 1 rfl) ?_
  obtain ⟨hix8, hR⟩ := ck_some hR
  refine va_iast (f := (Mb4 0)) hx hb hK hP hD hS 1 0 rfl rfl hix8 dX7_vetoedThen_42 (fun H4 locs hP hD hS => ?_)
  have hP : va_P (dC, dI) vwCl (wMo cI aM (pset Mb4 0 (upd (Mb4 0) (ix (((77 : Int32) + ((2 : Int32) * p1)) + p2)) r1)) hs) H4 := hP
  have hD : va_D A (wMo cI aM (pset Mb4 0 (upd (Mb4 0) (ix (((77 : Int32) + ((2 : Int32) * p1)) + p2)) r1)) hs) := hD
  obtain ⟨Mb9, hMb9⟩ : ∃ z : Pic, z = (pset Mb4 0 (upd (Mb4 0) (ix (((77 : Int32) + ((2 : Int32) * p1)) + p2)) r1)) := ⟨_, rfl⟩
  rw [← hMb9] at hP hD
  have hR := bd_n hMb9 hR
  refine lv_iload hx hb dX7_vetoedThen_43 (lv_at hl 0 rfl) ?_
  exact W.zret (v := r5) (ty := .boolean) hx hb hr nb7 (fun t ht hW => ⟨⟨r5, Mb9, rfl, ⟨Option.some.inj hR, nb7⟩, P_at ht hP⟩, hS.F ht⟩) hS.2.2 dX7_vetoedThen_45
abbrev rm_X7_changesGuest : Room := { frames := 5, cells := 0, slots := 0, locals := 114 }
abbrev q_X7_changesGuest (dC : Nat → ClassId) (dI : Nat → Nat → Nat) (cI cZ cS : ClassId) (aM : Nat → Nat) (hs : Int64) (res : Int32 × Pic) (A : Nat → Prop) : Array Value → State → Outcome → State → Prop := va_Qi (fun (r : Int32) (u : Pic) => (r, u) = res) (fun u t => va_P (dC, dI) vwCl (wMo cI aM u hs) t.heap) A
set_option maxHeartbeats 4000000 in
set_option maxRecDepth 100000 in
theorem met_X7_changesGuest (l : Launch) (dC : Nat → ClassId) (dI : Nat → Nat → Nat) (cI cZ cS : ClassId) (aM : Nat → Nat) (M : Pic) (hs : Int64) (sz : Nat) (p1 : Int32) (p2 : Int32) (p3 : Int32) (p4 : Int32) (res : Int32 × Pic) (hR : f7_changesGuest M p1 p2 p3 p4 = some res) : Met l yX7_changesGuest wsX7_changesGuest rm_X7_changesGuest (va_Pc [.ref (aM 0), .int p1, .int p2, .int p3, .int p4] (pW (dC, dI) (tyS cI cZ cS) (wMo cI aM M hs) sz)) (q_X7_changesGuest dC dI cI cZ cS aM hs res (va_A (wMo cI aM M hs) sz)) 0 0 (va_A (wMo cI aM M hs) sz) := by
  refine Met.ofW (cc := cX7_changesGuest) (maxL := 6) (ret := (some .int)) (by decide) rfl ?_
  intro p e s m args below meth c s₁ B hml hv
  obtain ⟨rfl, hsz, hP, hK, hD0, hN⟩ := hv
  have hx := B.exec
  have hb := B.bytes
  have hr := B.returns
  have hts := atoms_spec (ws := wsX7_changesGuest) B.pre
  have hown : s.vm.findClass RX7 = some m.cls := findClass_of_methodNamed B.named
  have hlocks := B.notSynchronized
  subst hsz
  have hD := hD0.self (sz := s.heap.size)
  generalize hAe : va_A (wMo cI aM M hs) s.heap.size = A at hD ⊢
  have hA : ∀ q : Nat, s.heap.size ≤ q → A q := fun q h => by rw [← hAe]; exact Or.inr h
  have hS : va_S A s.heap s.heap [] := va_S.rf
  have hP : va_P (dC, dI) vwCl (wMo cI aM M hs) s.heap := hP
  rw [f7_changesGuest] at hR
  have hin7 : ∀ w ∈ wsX70, w ∈ wsX7_changesGuest := by decide +kernel
  have hl := lv_entry ([.ref (aM 0), .int p1, .int p2, .int p3, .int p4]) (n := 6) (Nat.le_of_ble_eq_true rfl)
  rw [lg_entry_eq]
  generalize (lg_sl ([.ref (aM 0), .int p1, .int p2, .int p3, .int p4]) ++ List.replicate (6 - (lg_sl ([.ref (aM 0), .int p1, .int p2, .int p3, .int p4])).length) Slot.unset).toArray = ls at hl ⊢
  have hl : lv_has ls 6 [(0, .ref (aM 0)), (1, .int p1), (2, .int p2), (3, .int p3), (4, .int p4)] := hl
  refine lv_aload_n hx hb dX7_changesGuest_0 rfl (lv_at hl 0 rfl) ?_
  refine lv_aload_n hx hb dX7_changesGuest_1 rfl (lv_at hl 0 rfl) ?_
  refine lv_iload_n hx hb dX7_changesGuest_2 rfl (lv_at hl 1 rfl) ?_
  refine va_calli (va_runV (As := [.int p1]) (rest := [.ref (aM 0)]) ⟨hx, hb, hml, hown, hts⟩ (met_X7_isGuest l dC dI cI cZ cS aM M hs s.heap.size p1) (cwV 1 hts gX7_changesGuest_X7_isGuest rfl rfl rfl (by decide +kernel) ⟨Nat.le_of_ble_eq_true rfl, Nat.le_of_ble_eq_true rfl⟩) (pV (wc := wMo cI aM M hs) (ci := 7) (q0 := 0) hK hP hD hN [0, 1, 2, 3, 4, 5, 6, 7, 8] rfl (by decide) rfl rfl) rfl rfl hl.1 rfl (lv_room (Nat.le_of_ble_eq_true rfl)) dX7_changesGuest_3 ⟨Nat.zero_le _, Nat.zero_le _⟩) hS (fun q _ h => a0_in hS hA q h) (a0_in hS hA) (fun r1 u t H1 locs ht hvm hw hB hz1 hk1 hS => ?_)
  obtain ⟨hw, nb2⟩ := hw
  subst hw
  have hP := rdk hP hk1
  refine lv_if_ne (tgt := 13) hx hb dX7_changesGuest_6 (by decide) (fun c_3 => ?_) (fun c_3 => ?_)
  · rw [if_neg c_3] at hR
    refine lv_iload_n hx hb dX7_changesGuest_13 rfl (lv_at hl 3 rfl) ?_
    refine lv_iconst (v := (0 : Int32)) hx hb dX7_changesGuest_14 (by decide) ?_
    refine lv_iload hx hb dX7_changesGuest_15 (lv_at hl 4 rfl) ?_
    refine va_calli (va_runS (As := [.int p3, .int (0 : Int32), .int p4]) (rest := [.ref (aM 0)]) ⟨hx, hb, hml, hown, hts⟩ (met_X7_within l dC dI cI cZ cS H1.size p3 (0 : Int32) p4) (va_cwS 3 hts gX7_changesGuest_X7_within rfl rfl rfl (by decide +kernel) ⟨Nat.le_of_ble_eq_true rfl, Nat.le_of_ble_eq_true rfl⟩) (pS (wc := []) hK hP hD hN [] rfl (by decide)) rfl rfl hl.1 rfl (lv_room (Nat.le_of_ble_eq_true rfl)) dX7_changesGuest_17 ⟨Nat.zero_le _, Nat.zero_le _⟩) hS (fun q _ h => a0_in hS hA q h) (a0_in hS hA) (fun r4 u t H2 locs ht hvm hw hB hz1 hk1 hS => ?_)
    obtain ⟨hw, nb5⟩ := hw
    subst hw
    have hP := rdk hP hk1
    refine lv_if_ne (tgt := 27) hx hb dX7_changesGuest_20 (by decide) (fun c_6 => ?_) (fun c_6 => ?_)
    · rw [if_neg c_6] at hR
      refine lv_iconst (v := (0 : Int32)) hx hb dX7_changesGuest_27 (by decide) ?_
      refine va_put (D := (dC, dI)) (ci := 7) (v := .int (0 : Int32)) (ty := .int) (C := RX7) (T := TX7) (N := 15) hx hb hts hin7 tyX7 tyX7_ok nmX7 hown hK hP hD hS 0 rfl rfl 7 (by decide) (hw_ hts 1 rfl) (fun _ h9 => h9) rfl (by decide +kernel) rfl rfl (Nat.le_of_ble_eq_true rfl) dX7_changesGuest_28 (fun H3 locs hP hD hS => ?_)
      have hP : va_P (dC, dI) vwCl (wMo cI aM (pset M 7 (fun _ => (0 : Int32))) hs) H3 := hP
      have hD : va_D A (wMo cI aM (pset M 7 (fun _ => (0 : Int32))) hs) := hD
      refine lv_aload_n hx hb dX7_changesGuest_31 rfl (lv_at hl 0 rfl) ?_
      refine va_get (D := (dC, dI)) (ci := 7) (v := .int (0 : Int32)) (C := RX7) (T := TX7) (N := 15) hx hb hts hin7 hown hK hP 0 rfl rfl 7 (by decide) (hw_ hts 1 rfl) (fun _ h9 => h9) rfl dX7_changesGuest_32 ?_
      refine lv_if_ne (tgt := 57) hx hb dX7_changesGuest_35 (by decide) (fun q => absurd (by decide) q) (fun _ => ?_)
      refine lv_aload_n hx hb dX7_changesGuest_38 rfl (lv_at hl 0 rfl) ?_
      refine lv_aload_n hx hb dX7_changesGuest_39 rfl (lv_at hl 0 rfl) ?_
      refine lv_iload_n hx hb dX7_changesGuest_40 rfl (lv_at hl 1 rfl) ?_
      refine lv_iload_n hx hb dX7_changesGuest_41 rfl (lv_at hl 2 rfl) ?_
      refine lv_iload_n hx hb dX7_changesGuest_42 rfl (lv_at hl 3 rfl) ?_
      obtain ⟨r7, u8, hc9, hR⟩ := ob2_e hR
      have hF := va_free (wc := wMo cI aM (pset M 7 (fun _ => (0 : Int32))) hs) hD hS hA [0, 1, 2, 3, 4, 5, 6, 7, 8] rfl
      refine va_calli (va_runV (As := [.int p1, .int p2, .int p3]) (rest := [.ref (aM 0)]) ⟨hx, hb, hml, hown, hts⟩ (met_X7_vetoedThen l dC dI cI cZ cS aM (pset M 7 (fun _ => (0 : Int32))) hs H3.size p1 p2 p3 (r7, u8) hc9) (cwV 3 hts gX7_changesGuest_X7_vetoedThen rfl rfl rfl (by decide +kernel) ⟨Nat.le_of_ble_eq_true rfl, Nat.le_of_ble_eq_true rfl⟩) (pV (wc := wMo cI aM (pset M 7 (fun _ => (0 : Int32))) hs) (ci := 7) (q0 := 0) hK hP hD hN [0, 1, 2, 3, 4, 5, 6, 7, 8] rfl (by decide) rfl rfl) rfl rfl hl.1 rfl (lv_room (Nat.le_of_ble_eq_true rfl)) dX7_changesGuest_43 ⟨Nat.zero_le _, Nat.zero_le _⟩) hS (fun q _ h => hF q h) hF (fun r7 u8 t H4 locs ht hvm hw hB hz1 hk1 hS => ?_)
      obtain ⟨hw, nb10⟩ := hw
      try dsimp only at hw hB
      rw [ht] at hB
      cases hw
      have hP := wrk (w2 := wMo cI aM u8 hs) hP hD [0, 1, 2, 3, 4, 5, 6, 7, 8] rfl (by decide) hk1 hB rfl rfl
      have hD := D_addr (w1 := wMo cI aM u8 hs) hD rfl
      refine lv_if_eq (tgt := 53) hx hb dX7_changesGuest_46 (by decide) (fun c_11 => ?_) (fun c_11 => ?_)
      · rw [if_pos c_11] at hR
        refine lv_iconst (v := (0 : Int32)) hx hb dX7_changesGuest_53 (by decide) ?_
        refine va_put (D := (dC, dI)) (ci := 7) (v := .int (0 : Int32)) (ty := .int) (C := RX7) (T := TX7) (N := 15) hx hb hts hin7 tyX7 tyX7_ok nmX7 hown hK hP hD hS 0 rfl rfl 7 (by decide) (hw_ hts 1 rfl) (fun _ h9 => h9) rfl (by decide +kernel) rfl rfl (Nat.le_of_ble_eq_true rfl) dX7_changesGuest_54 (fun H5 locs hP hD hS => ?_)
        have hP : va_P (dC, dI) vwCl (wMo cI aM (pset u8 7 (fun _ => (0 : Int32))) hs) H5 := hP
        have hD : va_D A (wMo cI aM (pset u8 7 (fun _ => (0 : Int32))) hs) := hD
        refine lv_aload_n hx hb dX7_changesGuest_57 rfl (lv_at hl 0 rfl) ?_
        refine va_get (D := (dC, dI)) (ci := 7) (v := .int (0 : Int32)) (C := RX7) (T := TX7) (N := 15) hx hb hts hin7 hown hK hP 0 rfl rfl 7 (by decide) (hw_ hts 1 rfl) (fun _ h9 => h9) rfl dX7_changesGuest_58 ?_
        refine lv_if_le (tgt := 66) hx hb dX7_changesGuest_61 (by decide) (fun _ => ?_) (fun q => absurd (by decide) q)
        refine lv_aload_n hx hb dX7_changesGuest_66 rfl (lv_at hl 0 rfl) ?_
        obtain ⟨u12, hc13, hR⟩ := ob1_e hR
        have hF := va_free (wc := wMo cI aM (pset u8 7 (fun _ => (0 : Int32))) hs) hD hS hA [0, 1, 2, 3, 4, 5, 6, 7, 8] rfl
        refine va_callv (va_runV (As := []) (rest := []) ⟨hx, hb, hml, hown, hts⟩ (met_X7_save l dC dI cI cZ cS aM (pset u8 7 (fun _ => (0 : Int32))) hs H5.size u12 hc13) (cwV 0 hts gX7_changesGuest_X7_save rfl rfl rfl (by decide +kernel) ⟨Nat.le_of_ble_eq_true rfl, Nat.le_of_ble_eq_true rfl⟩) (pV (wc := wMo cI aM (pset u8 7 (fun _ => (0 : Int32))) hs) (ci := 7) (q0 := 0) hK hP hD hN [0, 1, 2, 3, 4, 5, 6, 7, 8] rfl (by decide) rfl rfl) rfl rfl hl.1 rfl (lv_room (Nat.le_of_ble_eq_true rfl)) dX7_changesGuest_67 ⟨Nat.zero_le _, Nat.zero_le _⟩) hS (fun q _ h => hF q h) hF (fun  u12 t H6 locs ht hvm hw hB hz1 hk1 hS => ?_)
        try dsimp only at hw hB
        rw [ht] at hB
        cases hw
        have hP := wrk (w2 := wMo cI aM u12 hs) hP hD [0, 1, 2, 3, 4, 5, 6, 7, 8] rfl (by decide) hk1 hB rfl rfl
        have hD := D_addr (w1 := wMo cI aM u12 hs) hD rfl
        refine lv_aload_n hx hb dX7_changesGuest_70 rfl (lv_at hl 0 rfl) ?_
        refine lv_iload_n hx hb dX7_changesGuest_71 rfl (lv_at hl 1 rfl) ?_
        refine lv_iload_n hx hb dX7_changesGuest_72 rfl (lv_at hl 2 rfl) ?_
        obtain ⟨r14, hc15, hR⟩ := ob1_e hR
        refine va_calli (va_runV (As := [.int p1, .int p2]) (rest := []) ⟨hx, hb, hml, hown, hts⟩ (met_X7_ofGuest l dC dI cI cZ cS aM u12 hs H6.size p1 p2 r14 hc15) (cwV 2 hts gX7_changesGuest_X7_ofGuest rfl rfl rfl (by decide +kernel) ⟨Nat.le_of_ble_eq_true rfl, Nat.le_of_ble_eq_true rfl⟩) (pV (wc := wMo cI aM u12 hs) (ci := 7) (q0 := 0) hK hP hD hN [0, 1, 2, 3, 4, 5, 6, 7, 8] rfl (by decide) rfl rfl) rfl rfl hl.1 rfl (lv_room (Nat.le_of_ble_eq_true rfl)) dX7_changesGuest_73 ⟨Nat.zero_le _, Nat.zero_le _⟩) hS (fun q _ h => a0_in hS hA q h) (a0_in hS hA) (fun r14 u t H7 locs ht hvm hw hB hz1 hk1 hS => ?_)
        cases hw
        have hP := rdk hP hk1
        refine lv_istore (lv' := [(5, .int r14), (0, .ref (aM 0)), (1, .int p1), (2, .int p2), (3, .int p3), (4, .int p4)]) hx hb dX7_changesGuest_76 hl (by decide) rfl (fun ls hl => ?_)
        refine lv_aload_n hx hb dX7_changesGuest_78 rfl (lv_at hl 1 rfl) ?_
        refine va_get (D := (dC, dI)) (ci := 7) (v := .ref (aM 1)) (C := RX7) (T := TX7) (N := 15) hx hb hts hin7 hown hK hP 0 rfl rfl 0 (by decide) (hw_ hts 2 rfl) (fun _ h9 => h9) rfl dX7_changesGuest_79 ?_
        refine lv_bipush (v := (77 : Int32)) hx hb dX7_changesGuest_82 (by decide) ?_
        refine lv_iconst (v := (2 : Int32)) hx hb dX7_changesGuest_84 (by decide) ?_
        refine lv_iload_n hx hb dX7_changesGuest_85 rfl (lv_at hl 2 rfl) ?_
        refine lv_imul hx hb dX7_changesGuest_86 ?_
        refine lv_iadd hx hb dX7_changesGuest_87 ?_
        refine lv_iload_n hx hb dX7_changesGuest_88 rfl (lv_at hl 3 rfl) ?_
        refine lv_iadd hx hb dX7_changesGuest_89 ?_
        refine lv_iload_n hx hb dX7_changesGuest_90 rfl (lv_at hl 4 rfl) ?_
        obtain ⟨hix16, hR⟩ := ck_some hR
        refine va_iast (f := (u12 0)) hx hb hK hP hD hS 1 0 rfl rfl hix16 dX7_changesGuest_91 (fun H8 locs hP hD hS => ?_)
        have hP : va_P (dC, dI) vwCl (wMo cI aM (pset u12 0 (upd (u12 0) (ix (((77 : Int32) + ((2 : Int32) * p1)) + p2)) p3)) hs) H8 := hP
        have hD : va_D A (wMo cI aM (pset u12 0 (upd (u12 0) (ix (((77 : Int32) + ((2 : Int32) * p1)) + p2)) p3)) hs) := hD
        obtain ⟨Mb17, hMb17⟩ : ∃ z : Pic, z = (pset u12 0 (upd (u12 0) (ix (((77 : Int32) + ((2 : Int32) * p1)) + p2)) p3)) := ⟨_, rfl⟩
        rw [← hMb17] at hP hD
        have hR := bd_n hMb17 hR
        refine lv_iload hx hb dX7_changesGuest_92 (lv_at hl 0 rfl) ?_
        exact W.iret (v := r14) hx hb hr (fun t ht hW => ⟨⟨r14, Mb17, rfl, Option.some.inj hR, P_at ht hP⟩, hS.F ht⟩) hS.2.2 dX7_changesGuest_94
      · rw [if_neg c_11] at hR
        refine lv_iconst (v := (3 : Int32)) hx hb dX7_changesGuest_49 (by decide) ?_
        refine lv_goto (tgt := 54) hx hb dX7_changesGuest_50 (by decide) ?_
        refine va_put (D := (dC, dI)) (ci := 7) (v := .int (3 : Int32)) (ty := .int) (C := RX7) (T := TX7) (N := 15) hx hb hts hin7 tyX7 tyX7_ok nmX7 hown hK hP hD hS 0 rfl rfl 7 (by decide) (hw_ hts 1 rfl) (fun _ h9 => h9) rfl (by decide +kernel) rfl rfl (Nat.le_of_ble_eq_true rfl) dX7_changesGuest_54 (fun H5 locs hP hD hS => ?_)
        have hP : va_P (dC, dI) vwCl (wMo cI aM (pset u8 7 (fun _ => (3 : Int32))) hs) H5 := hP
        have hD : va_D A (wMo cI aM (pset u8 7 (fun _ => (3 : Int32))) hs) := hD
        refine lv_aload_n hx hb dX7_changesGuest_57 rfl (lv_at hl 0 rfl) ?_
        refine va_get (D := (dC, dI)) (ci := 7) (v := .int (3 : Int32)) (C := RX7) (T := TX7) (N := 15) hx hb hts hin7 hown hK hP 0 rfl rfl 7 (by decide) (hw_ hts 1 rfl) (fun _ h9 => h9) rfl dX7_changesGuest_58 ?_
        refine lv_if_le (tgt := 66) hx hb dX7_changesGuest_61 (by decide) (fun q => absurd q (by decide)) (fun _ => ?_)
        refine lv_iconst (v := (0 : Int32)) hx hb dX7_changesGuest_64 (by decide) ?_
        exact W.iret (v := (0 : Int32)) hx hb hr (fun t ht hW => ⟨⟨(0 : Int32), (pset u8 7 (fun _ => (3 : Int32))), rfl, Option.some.inj hR, P_at ht hP⟩, hS.F ht⟩) hS.2.2 dX7_changesGuest_65
    · rw [if_pos c_6] at hR
      refine lv_iconst (v := (2 : Int32)) hx hb dX7_changesGuest_23 (by decide) ?_
      refine lv_goto (tgt := 28) hx hb dX7_changesGuest_24 (by decide) ?_
      refine va_put (D := (dC, dI)) (ci := 7) (v := .int (2 : Int32)) (ty := .int) (C := RX7) (T := TX7) (N := 15) hx hb hts hin7 tyX7 tyX7_ok nmX7 hown hK hP hD hS 0 rfl rfl 7 (by decide) (hw_ hts 1 rfl) (fun _ h9 => h9) rfl (by decide +kernel) rfl rfl (Nat.le_of_ble_eq_true rfl) dX7_changesGuest_28 (fun H3 locs hP hD hS => ?_)
      have hP : va_P (dC, dI) vwCl (wMo cI aM (pset M 7 (fun _ => (2 : Int32))) hs) H3 := hP
      have hD : va_D A (wMo cI aM (pset M 7 (fun _ => (2 : Int32))) hs) := hD
      refine lv_aload_n hx hb dX7_changesGuest_31 rfl (lv_at hl 0 rfl) ?_
      refine va_get (D := (dC, dI)) (ci := 7) (v := .int (2 : Int32)) (C := RX7) (T := TX7) (N := 15) hx hb hts hin7 hown hK hP 0 rfl rfl 7 (by decide) (hw_ hts 1 rfl) (fun _ h9 => h9) rfl dX7_changesGuest_32 ?_
      refine lv_if_ne (tgt := 57) hx hb dX7_changesGuest_35 (by decide) (fun _ => ?_) (fun q => absurd q (by decide))
      refine lv_aload_n hx hb dX7_changesGuest_57 rfl (lv_at hl 0 rfl) ?_
      refine va_get (D := (dC, dI)) (ci := 7) (v := .int (2 : Int32)) (C := RX7) (T := TX7) (N := 15) hx hb hts hin7 hown hK hP 0 rfl rfl 7 (by decide) (hw_ hts 1 rfl) (fun _ h9 => h9) rfl dX7_changesGuest_58 ?_
      refine lv_if_le (tgt := 66) hx hb dX7_changesGuest_61 (by decide) (fun q => absurd q (by decide)) (fun _ => ?_)
      refine lv_iconst (v := (0 : Int32)) hx hb dX7_changesGuest_64 (by decide) ?_
      exact W.iret (v := (0 : Int32)) hx hb hr (fun t ht hW => ⟨⟨(0 : Int32), (pset M 7 (fun _ => (2 : Int32))), rfl, Option.some.inj hR, P_at ht hP⟩, hS.F ht⟩) hS.2.2 dX7_changesGuest_65
  · rw [if_pos c_3] at hR
    refine lv_iconst (v := (1 : Int32)) hx hb dX7_changesGuest_9 (by decide) ?_
    refine lv_goto (tgt := 28) hx hb dX7_changesGuest_10 (by decide) ?_
    refine va_put (D := (dC, dI)) (ci := 7) (v := .int (1 : Int32)) (ty := .int) (C := RX7) (T := TX7) (N := 15) hx hb hts hin7 tyX7 tyX7_ok nmX7 hown hK hP hD hS 0 rfl rfl 7 (by decide) (hw_ hts 1 rfl) (fun _ h9 => h9) rfl (by decide +kernel) rfl rfl (Nat.le_of_ble_eq_true rfl) dX7_changesGuest_28 (fun H2 locs hP hD hS => ?_)
    have hP : va_P (dC, dI) vwCl (wMo cI aM (pset M 7 (fun _ => (1 : Int32))) hs) H2 := hP
    have hD : va_D A (wMo cI aM (pset M 7 (fun _ => (1 : Int32))) hs) := hD
    refine lv_aload_n hx hb dX7_changesGuest_31 rfl (lv_at hl 0 rfl) ?_
    refine va_get (D := (dC, dI)) (ci := 7) (v := .int (1 : Int32)) (C := RX7) (T := TX7) (N := 15) hx hb hts hin7 hown hK hP 0 rfl rfl 7 (by decide) (hw_ hts 1 rfl) (fun _ h9 => h9) rfl dX7_changesGuest_32 ?_
    refine lv_if_ne (tgt := 57) hx hb dX7_changesGuest_35 (by decide) (fun _ => ?_) (fun q => absurd q (by decide))
    refine lv_aload_n hx hb dX7_changesGuest_57 rfl (lv_at hl 0 rfl) ?_
    refine va_get (D := (dC, dI)) (ci := 7) (v := .int (1 : Int32)) (C := RX7) (T := TX7) (N := 15) hx hb hts hin7 hown hK hP 0 rfl rfl 7 (by decide) (hw_ hts 1 rfl) (fun _ h9 => h9) rfl dX7_changesGuest_58 ?_
    refine lv_if_le (tgt := 66) hx hb dX7_changesGuest_61 (by decide) (fun q => absurd q (by decide)) (fun _ => ?_)
    refine lv_iconst (v := (0 : Int32)) hx hb dX7_changesGuest_64 (by decide) ?_
    exact W.iret (v := (0 : Int32)) hx hb hr (fun t ht hW => ⟨⟨(0 : Int32), (pset M 7 (fun _ => (1 : Int32))), rfl, Option.some.inj hR, P_at ht hP⟩, hS.F ht⟩) hS.2.2 dX7_changesGuest_65
abbrev rm_X7_come : Room := { frames := 6, cells := 0, slots := 0, locals := 139 }
abbrev q_X7_come (dC : Nat → ClassId) (dI : Nat → Nat → Nat) (cI cZ cS : ClassId) (aM : Nat → Nat) (hs : Int64) (res : Int32 × Pic) (A : Nat → Prop) : Array Value → State → Outcome → State → Prop := va_Qi (fun (r : Int32) (u : Pic) => (r, u) = res) (fun u t => va_P (dC, dI) vwCl (wMo cI aM u hs) t.heap) A
set_option maxHeartbeats 4000000 in
set_option maxRecDepth 100000 in
theorem met_X7_come (l : Launch) (dC : Nat → ClassId) (dI : Nat → Nat → Nat) (cI cZ cS : ClassId) (aM : Nat → Nat) (M : Pic) (hs : Int64) (sz : Nat) (p1 : Int32) (p2 : Int32) (res : Int32 × Pic) (hR : f7_come M p1 p2 = some res) : Met l yX7_come wsX7_come rm_X7_come (va_Pc [.ref (aM 0), .int p1, .int p2] (pW (dC, dI) (tyS cI cZ cS) (wMo cI aM M hs) sz)) (q_X7_come dC dI cI cZ cS aM hs res (va_A (wMo cI aM M hs) sz)) 0 0 (va_A (wMo cI aM M hs) sz) := by
  refine Met.ofW (cc := cX7_come) (maxL := 3) (ret := (some .int)) (by decide) rfl ?_
  intro p e s m args below meth c s₁ B hml hv
  obtain ⟨rfl, hsz, hP, hK, hD0, hN⟩ := hv
  have hx := B.exec
  have hb := B.bytes
  have hr := B.returns
  have hts := atoms_spec (ws := wsX7_come) B.pre
  have hown : s.vm.findClass RX7 = some m.cls := findClass_of_methodNamed B.named
  have hlocks := B.notSynchronized
  subst hsz
  have hD := hD0.self (sz := s.heap.size)
  generalize hAe : va_A (wMo cI aM M hs) s.heap.size = A at hD ⊢
  have hA : ∀ q : Nat, s.heap.size ≤ q → A q := fun q h => by rw [← hAe]; exact Or.inr h
  have hS : va_S A s.heap s.heap [] := va_S.rf
  have hP : va_P (dC, dI) vwCl (wMo cI aM M hs) s.heap := hP
  rw [f7_come] at hR
  have hl := lv_entry ([.ref (aM 0), .int p1, .int p2]) (n := 3) (Nat.le_of_ble_eq_true rfl)
  rw [lg_entry_eq]
  generalize (lg_sl ([.ref (aM 0), .int p1, .int p2]) ++ List.replicate (3 - (lg_sl ([.ref (aM 0), .int p1, .int p2])).length) Slot.unset).toArray = ls at hl ⊢
  have hl : lv_has ls 3 [(0, .ref (aM 0)), (1, .int p1), (2, .int p2)] := hl
  refine lv_aload_n hx hb dX7_come_0 rfl (lv_at hl 0 rfl) ?_
  refine lv_iload_n hx hb dX7_come_1 rfl (lv_at hl 1 rfl) ?_
  refine lv_iconst (v := (0 : Int32)) hx hb dX7_come_2 (by decide) ?_
  refine lv_iload_n hx hb dX7_come_3 rfl (lv_at hl 2 rfl) ?_
  refine lv_bipush (v := (127 : Int32)) hx hb dX7_come_4 (by decide) ?_
  obtain ⟨r1, u2, hc3, hR⟩ := ob2_e hR
  have hF := va_free (wc := wMo cI aM M hs) hD hS hA [0, 1, 2, 3, 4, 5, 6, 7, 8] rfl
  refine va_calli (va_runV (As := [.int p1, .int (0 : Int32), .int p2, .int (127 : Int32)]) (rest := []) ⟨hx, hb, hml, hown, hts⟩ (met_X7_changesGuest l dC dI cI cZ cS aM M hs s.heap.size p1 (0 : Int32) p2 (127 : Int32) (r1, u2) hc3) (cwV 4 hts gX7_come_X7_changesGuest rfl rfl rfl (by decide +kernel) ⟨Nat.le_of_ble_eq_true rfl, Nat.le_of_ble_eq_true rfl⟩) (pV (wc := wMo cI aM M hs) (ci := 7) (q0 := 0) hK hP hD hN [0, 1, 2, 3, 4, 5, 6, 7, 8] rfl (by decide) rfl rfl) rfl rfl hl.1 rfl (lv_room (Nat.le_of_ble_eq_true rfl)) dX7_come_6 ⟨Nat.zero_le _, Nat.zero_le _⟩) hS (fun q _ h => hF q h) hF (fun r1 u2 t H1 locs ht hvm hw hB hz1 hk1 hS => ?_)
  try dsimp only at hw hB
  rw [ht] at hB
  cases hw
  have hP := wrk (w2 := wMo cI aM u2 hs) hP hD [0, 1, 2, 3, 4, 5, 6, 7, 8] rfl (by decide) hk1 hB rfl rfl
  have hD := D_addr (w1 := wMo cI aM u2 hs) hD rfl
  exact W.iret (v := r1) hx hb hr (fun t ht hW => ⟨⟨r1, u2, rfl, Option.some.inj hR, P_at ht hP⟩, hS.F ht⟩) hS.2.2 dX7_come_9
abbrev rm_X7_veto : Room := { frames := 6, cells := 0, slots := 0, locals := 139 }
abbrev q_X7_veto (dC : Nat → ClassId) (dI : Nat → Nat → Nat) (cI cZ cS : ClassId) (aM : Nat → Nat) (hs : Int64) (res : Int32 × Pic) (A : Nat → Prop) : Array Value → State → Outcome → State → Prop := va_Qi (fun (r : Int32) (u : Pic) => (r, u) = res) (fun u t => va_P (dC, dI) vwCl (wMo cI aM u hs) t.heap) A
set_option maxHeartbeats 4000000 in
set_option maxRecDepth 100000 in
theorem met_X7_veto (l : Launch) (dC : Nat → ClassId) (dI : Nat → Nat → Nat) (cI cZ cS : ClassId) (aM : Nat → Nat) (M : Pic) (hs : Int64) (sz : Nat) (p1 : Int32) (p2 : Int32) (res : Int32 × Pic) (hR : f7_veto M p1 p2 = some res) : Met l yX7_veto wsX7_veto rm_X7_veto (va_Pc [.ref (aM 0), .int p1, .int p2] (pW (dC, dI) (tyS cI cZ cS) (wMo cI aM M hs) sz)) (q_X7_veto dC dI cI cZ cS aM hs res (va_A (wMo cI aM M hs) sz)) 0 0 (va_A (wMo cI aM M hs) sz) := by
  refine Met.ofW (cc := cX7_veto) (maxL := 3) (ret := (some .int)) (by decide) rfl ?_
  intro p e s m args below meth c s₁ B hml hv
  obtain ⟨rfl, hsz, hP, hK, hD0, hN⟩ := hv
  have hx := B.exec
  have hb := B.bytes
  have hr := B.returns
  have hts := atoms_spec (ws := wsX7_veto) B.pre
  have hown : s.vm.findClass RX7 = some m.cls := findClass_of_methodNamed B.named
  have hlocks := B.notSynchronized
  subst hsz
  have hD := hD0.self (sz := s.heap.size)
  generalize hAe : va_A (wMo cI aM M hs) s.heap.size = A at hD ⊢
  have hA : ∀ q : Nat, s.heap.size ≤ q → A q := fun q h => by rw [← hAe]; exact Or.inr h
  have hS : va_S A s.heap s.heap [] := va_S.rf
  have hP : va_P (dC, dI) vwCl (wMo cI aM M hs) s.heap := hP
  rw [f7_veto] at hR
  have hl := lv_entry ([.ref (aM 0), .int p1, .int p2]) (n := 3) (Nat.le_of_ble_eq_true rfl)
  rw [lg_entry_eq]
  generalize (lg_sl ([.ref (aM 0), .int p1, .int p2]) ++ List.replicate (3 - (lg_sl ([.ref (aM 0), .int p1, .int p2])).length) Slot.unset).toArray = ls at hl ⊢
  have hl : lv_has ls 3 [(0, .ref (aM 0)), (1, .int p1), (2, .int p2)] := hl
  refine lv_aload_n hx hb dX7_veto_0 rfl (lv_at hl 0 rfl) ?_
  refine lv_iload_n hx hb dX7_veto_1 rfl (lv_at hl 1 rfl) ?_
  refine lv_iconst (v := (1 : Int32)) hx hb dX7_veto_2 (by decide) ?_
  refine lv_iload_n hx hb dX7_veto_3 rfl (lv_at hl 2 rfl) ?_
  refine lv_bipush (v := (63 : Int32)) hx hb dX7_veto_4 (by decide) ?_
  obtain ⟨r1, u2, hc3, hR⟩ := ob2_e hR
  have hF := va_free (wc := wMo cI aM M hs) hD hS hA [0, 1, 2, 3, 4, 5, 6, 7, 8] rfl
  refine va_calli (va_runV (As := [.int p1, .int (1 : Int32), .int p2, .int (63 : Int32)]) (rest := []) ⟨hx, hb, hml, hown, hts⟩ (met_X7_changesGuest l dC dI cI cZ cS aM M hs s.heap.size p1 (1 : Int32) p2 (63 : Int32) (r1, u2) hc3) (cwV 4 hts gX7_veto_X7_changesGuest rfl rfl rfl (by decide +kernel) ⟨Nat.le_of_ble_eq_true rfl, Nat.le_of_ble_eq_true rfl⟩) (pV (wc := wMo cI aM M hs) (ci := 7) (q0 := 0) hK hP hD hN [0, 1, 2, 3, 4, 5, 6, 7, 8] rfl (by decide) rfl rfl) rfl rfl hl.1 rfl (lv_room (Nat.le_of_ble_eq_true rfl)) dX7_veto_6 ⟨Nat.zero_le _, Nat.zero_le _⟩) hS (fun q _ h => hF q h) hF (fun r1 u2 t H1 locs ht hvm hw hB hz1 hk1 hS => ?_)
  try dsimp only at hw hB
  rw [ht] at hB
  cases hw
  have hP := wrk (w2 := wMo cI aM u2 hs) hP hD [0, 1, 2, 3, 4, 5, 6, 7, 8] rfl (by decide) hk1 hB rfl rfl
  have hD := D_addr (w1 := wMo cI aM u2 hs) hD rfl
  exact W.iret (v := r1) hx hb hr (fun t ht hW => ⟨⟨r1, u2, rfl, Option.some.inj hR, P_at ht hP⟩, hS.F ht⟩) hS.2.2 dX7_veto_9
abbrev rm_X7_set : Room := { frames := 4, cells := 0, slots := 0, locals := 91 }
abbrev q_X7_set (dC : Nat → ClassId) (dI : Nat → Nat → Nat) (cI cZ cS : ClassId) (aM : Nat → Nat) (hs : Int64) (res : Int32 × Pic) (A : Nat → Prop) : Array Value → State → Outcome → State → Prop := va_Qi (fun (r : Int32) (u : Pic) => (r, u) = res) (fun u t => va_P (dC, dI) vwCl (wMo cI aM u hs) t.heap) A
set_option maxHeartbeats 4000000 in
set_option maxRecDepth 100000 in
theorem met_X7_set (l : Launch) (dC : Nat → ClassId) (dI : Nat → Nat → Nat) (cI cZ cS : ClassId) (aM : Nat → Nat) (M : Pic) (hs : Int64) (sz : Nat) (p1 : Int32) (p2 : Int32) (res : Int32 × Pic) (hR : f7_set M p1 p2 = some res) : Met l yX7_set wsX7_set rm_X7_set (va_Pc [.ref (aM 0), .int p1, .int p2] (pW (dC, dI) (tyS cI cZ cS) (wMo cI aM M hs) sz)) (q_X7_set dC dI cI cZ cS aM hs res (va_A (wMo cI aM M hs) sz)) 0 0 (va_A (wMo cI aM M hs) sz) := by
  refine Met.ofW (cc := cX7_set) (maxL := 4) (ret := (some .int)) (by decide) rfl ?_
  intro p e s m args below meth c s₁ B hml hv
  obtain ⟨rfl, hsz, hP, hK, hD0, hN⟩ := hv
  have hx := B.exec
  have hb := B.bytes
  have hr := B.returns
  have hts := atoms_spec (ws := wsX7_set) B.pre
  have hown : s.vm.findClass RX7 = some m.cls := findClass_of_methodNamed B.named
  have hlocks := B.notSynchronized
  subst hsz
  have hD := hD0.self (sz := s.heap.size)
  generalize hAe : va_A (wMo cI aM M hs) s.heap.size = A at hD ⊢
  have hA : ∀ q : Nat, s.heap.size ≤ q → A q := fun q h => by rw [← hAe]; exact Or.inr h
  have hS : va_S A s.heap s.heap [] := va_S.rf
  have hP : va_P (dC, dI) vwCl (wMo cI aM M hs) s.heap := hP
  rw [f7_set] at hR
  have hin7 : ∀ w ∈ wsX70, w ∈ wsX7_set := by decide +kernel
  have hl := lv_entry ([.ref (aM 0), .int p1, .int p2]) (n := 4) (Nat.le_of_ble_eq_true rfl)
  rw [lg_entry_eq]
  generalize (lg_sl ([.ref (aM 0), .int p1, .int p2]) ++ List.replicate (4 - (lg_sl ([.ref (aM 0), .int p1, .int p2])).length) Slot.unset).toArray = ls at hl ⊢
  have hl : lv_has ls 4 [(0, .ref (aM 0)), (1, .int p1), (2, .int p2)] := hl
  refine lv_aload_n hx hb dX7_set_0 rfl (lv_at hl 0 rfl) ?_
  refine lv_iload_n hx hb dX7_set_1 rfl (lv_at hl 1 rfl) ?_
  refine va_calli (va_runS (As := [.int p1]) (rest := [.ref (aM 0)]) ⟨hx, hb, hml, hown, hts⟩ (met_X7_isSetting l dC dI cI cZ cS s.heap.size p1) (va_cwS 1 hts gX7_set_X7_isSetting rfl rfl rfl (by decide +kernel) ⟨Nat.le_of_ble_eq_true rfl, Nat.le_of_ble_eq_true rfl⟩) (pS (wc := []) hK hP hD hN [] rfl (by decide)) rfl rfl hl.1 rfl (lv_room (Nat.le_of_ble_eq_true rfl)) dX7_set_2 ⟨Nat.zero_le _, Nat.zero_le _⟩) hS (fun q _ h => a0_in hS hA q h) (a0_in hS hA) (fun r1 u t H1 locs ht hvm hw hB hz1 hk1 hS => ?_)
  obtain ⟨hw, nb2⟩ := hw
  subst hw
  have hP := rdk hP hk1
  refine lv_if_ne (tgt := 12) hx hb dX7_set_5 (by decide) (fun c_3 => ?_) (fun c_3 => ?_)
  · rw [if_neg c_3] at hR
    refine lv_iload_n hx hb dX7_set_12 rfl (lv_at hl 1 rfl) ?_
    refine lv_iload_n hx hb dX7_set_13 rfl (lv_at hl 2 rfl) ?_
    refine va_calli (va_runS (As := [.int p1, .int p2]) (rest := [.ref (aM 0)]) ⟨hx, hb, hml, hown, hts⟩ (met_X7_isValue l dC dI cI cZ cS H1.size p1 p2) (va_cwS 2 hts gX7_set_X7_isValue rfl rfl rfl (by decide +kernel) ⟨Nat.le_of_ble_eq_true rfl, Nat.le_of_ble_eq_true rfl⟩) (pS (wc := []) hK hP hD hN [] rfl (by decide)) rfl rfl hl.1 rfl (lv_room (Nat.le_of_ble_eq_true rfl)) dX7_set_14 ⟨Nat.zero_le _, Nat.zero_le _⟩) hS (fun q _ h => a0_in hS hA q h) (a0_in hS hA) (fun r4 u t H2 locs ht hvm hw hB hz1 hk1 hS => ?_)
    obtain ⟨hw, nb5⟩ := hw
    subst hw
    have hP := rdk hP hk1
    refine lv_if_ne (tgt := 24) hx hb dX7_set_17 (by decide) (fun c_6 => ?_) (fun c_6 => ?_)
    · rw [if_neg c_6] at hR
      refine lv_iload_n hx hb dX7_set_24 rfl (lv_at hl 1 rfl) ?_
      refine lv_iconst (v := (2 : Int32)) hx hb dX7_set_25 (by decide) ?_
      refine lv_icmp_ne (tgt := 41) hx hb dX7_set_26 (by decide) (fun c_7 => ?_) (fun c_7 => ?_)
      · rw [if_neg c_7] at hR
        refine lv_iconst (v := (0 : Int32)) hx hb dX7_set_41 (by decide) ?_
        refine va_put (D := (dC, dI)) (ci := 7) (v := .int (0 : Int32)) (ty := .int) (C := RX7) (T := TX7) (N := 15) hx hb hts hin7 tyX7 tyX7_ok nmX7 hown hK hP hD hS 0 rfl rfl 7 (by decide) (hw_ hts 1 rfl) (fun _ h9 => h9) rfl (by decide +kernel) rfl rfl (Nat.le_of_ble_eq_true rfl) dX7_set_42 (fun H3 locs hP hD hS => ?_)
        have hP : va_P (dC, dI) vwCl (wMo cI aM (pset M 7 (fun _ => (0 : Int32))) hs) H3 := hP
        have hD : va_D A (wMo cI aM (pset M 7 (fun _ => (0 : Int32))) hs) := hD
        refine lv_aload_n hx hb dX7_set_45 rfl (lv_at hl 0 rfl) ?_
        refine va_get (D := (dC, dI)) (ci := 7) (v := .int (0 : Int32)) (C := RX7) (T := TX7) (N := 15) hx hb hts hin7 hown hK hP 0 rfl rfl 7 (by decide) (hw_ hts 1 rfl) (fun _ h9 => h9) rfl dX7_set_46 ?_
        refine lv_if_le (tgt := 54) hx hb dX7_set_49 (by decide) (fun _ => ?_) (fun q => absurd (by decide) q)
        refine lv_aload_n hx hb dX7_set_54 rfl (lv_at hl 0 rfl) ?_
        obtain ⟨u8, hc9, hR⟩ := ob1_e hR
        have hF := va_free (wc := wMo cI aM (pset M 7 (fun _ => (0 : Int32))) hs) hD hS hA [0, 1, 2, 3, 4, 5, 6, 7, 8] rfl
        refine va_callv (va_runV (As := []) (rest := []) ⟨hx, hb, hml, hown, hts⟩ (met_X7_save l dC dI cI cZ cS aM (pset M 7 (fun _ => (0 : Int32))) hs H3.size u8 hc9) (cwV 0 hts gX7_set_X7_save rfl rfl rfl (by decide +kernel) ⟨Nat.le_of_ble_eq_true rfl, Nat.le_of_ble_eq_true rfl⟩) (pV (wc := wMo cI aM (pset M 7 (fun _ => (0 : Int32))) hs) (ci := 7) (q0 := 0) hK hP hD hN [0, 1, 2, 3, 4, 5, 6, 7, 8] rfl (by decide) rfl rfl) rfl rfl hl.1 rfl (lv_room (Nat.le_of_ble_eq_true rfl)) dX7_set_55 ⟨Nat.zero_le _, Nat.zero_le _⟩) hS (fun q _ h => hF q h) hF (fun  u8 t H4 locs ht hvm hw hB hz1 hk1 hS => ?_)
        try dsimp only at hw hB
        rw [ht] at hB
        cases hw
        have hP := wrk (w2 := wMo cI aM u8 hs) hP hD [0, 1, 2, 3, 4, 5, 6, 7, 8] rfl (by decide) hk1 hB rfl rfl
        have hD := D_addr (w1 := wMo cI aM u8 hs) hD rfl
        refine lv_aload_n hx hb dX7_set_58 rfl (lv_at hl 0 rfl) ?_
        refine va_get (D := (dC, dI)) (ci := 7) (v := .ref (aM 1)) (C := RX7) (T := TX7) (N := 15) hx hb hts hin7 hown hK hP 0 rfl rfl 0 (by decide) (hw_ hts 2 rfl) (fun _ h9 => h9) rfl dX7_set_59 ?_
        refine lv_iload_n hx hb dX7_set_62 rfl (lv_at hl 1 rfl) ?_
        obtain ⟨hix10, hR⟩ := ck_some hR
        refine va_iald (f := (u8 0)) hx hb hK hP 1 0 rfl rfl hix10 dX7_set_63 ?_
        refine lv_topi (fun v11 hv11 => ?_)
        have hR := bd_n hv11 hR
        refine lv_istore_n (lv' := [(3, .int v11), (0, .ref (aM 0)), (1, .int p1), (2, .int p2)]) hx hb dX7_set_64 rfl hl (by decide) rfl (fun ls hl => ?_)
        refine lv_aload_n hx hb dX7_set_65 rfl (lv_at hl 1 rfl) ?_
        refine va_get (D := (dC, dI)) (ci := 7) (v := .ref (aM 1)) (C := RX7) (T := TX7) (N := 15) hx hb hts hin7 hown hK hP 0 rfl rfl 0 (by decide) (hw_ hts 2 rfl) (fun _ h9 => h9) rfl dX7_set_66 ?_
        refine lv_iload_n hx hb dX7_set_69 rfl (lv_at hl 2 rfl) ?_
        refine lv_iload_n hx hb dX7_set_70 rfl (lv_at hl 3 rfl) ?_
        obtain ⟨hix12, hR⟩ := ck_some hR
        refine va_iast (f := (u8 0)) hx hb hK hP hD hS 1 0 rfl rfl hix12 dX7_set_71 (fun H5 locs hP hD hS => ?_)
        have hP : va_P (dC, dI) vwCl (wMo cI aM (pset u8 0 (upd (u8 0) (ix p1) p2)) hs) H5 := hP
        have hD : va_D A (wMo cI aM (pset u8 0 (upd (u8 0) (ix p1) p2)) hs) := hD
        obtain ⟨Mb13, hMb13⟩ : ∃ z : Pic, z = (pset u8 0 (upd (u8 0) (ix p1) p2)) := ⟨_, rfl⟩
        rw [← hMb13] at hP hD
        have hR := bd_n hMb13 hR
        refine lv_iload_n hx hb dX7_set_72 rfl (lv_at hl 0 rfl) ?_
        exact W.iret (v := v11) hx hb hr (fun t ht hW => ⟨⟨v11, Mb13, rfl, Option.some.inj hR, P_at ht hP⟩, hS.F ht⟩) hS.2.2 dX7_set_73
      · rw [if_pos c_7] at hR
        refine lv_aload_n hx hb dX7_set_29 rfl (lv_at hl 0 rfl) ?_
        refine lv_iload_n hx hb dX7_set_30 rfl (lv_at hl 2 rfl) ?_
        obtain ⟨r14, hc15, hR⟩ := ob1_e hR
        refine va_calli (va_runV (As := [.int p2]) (rest := [.ref (aM 0)]) ⟨hx, hb, hml, hown, hts⟩ (met_X7_isDear l dC dI cI cZ cS aM M hs H2.size p2 r14 hc15) (cwV 1 hts gX7_set_X7_isDear rfl rfl rfl (by decide +kernel) ⟨Nat.le_of_ble_eq_true rfl, Nat.le_of_ble_eq_true rfl⟩) (pV (wc := wMo cI aM M hs) (ci := 7) (q0 := 0) hK hP hD hN [0, 1, 2, 3, 4, 5, 6, 7, 8] rfl (by decide) rfl rfl) rfl rfl hl.1 rfl (lv_room (Nat.le_of_ble_eq_true rfl)) dX7_set_31 ⟨Nat.zero_le _, Nat.zero_le _⟩) hS (fun q _ h => a0_in hS hA q h) (a0_in hS hA) (fun r14 u t H3 locs ht hvm hw hB hz1 hk1 hS => ?_)
        obtain ⟨hw, nb16⟩ := hw
        cases hw
        have hP := rdk hP hk1
        refine lv_if_eq (tgt := 41) hx hb dX7_set_34 (by decide) (fun c_17 => ?_) (fun c_17 => ?_)
        · rw [if_pos c_17] at hR
          refine lv_iconst (v := (0 : Int32)) hx hb dX7_set_41 (by decide) ?_
          refine va_put (D := (dC, dI)) (ci := 7) (v := .int (0 : Int32)) (ty := .int) (C := RX7) (T := TX7) (N := 15) hx hb hts hin7 tyX7 tyX7_ok nmX7 hown hK hP hD hS 0 rfl rfl 7 (by decide) (hw_ hts 1 rfl) (fun _ h9 => h9) rfl (by decide +kernel) rfl rfl (Nat.le_of_ble_eq_true rfl) dX7_set_42 (fun H4 locs hP hD hS => ?_)
          have hP : va_P (dC, dI) vwCl (wMo cI aM (pset M 7 (fun _ => (0 : Int32))) hs) H4 := hP
          have hD : va_D A (wMo cI aM (pset M 7 (fun _ => (0 : Int32))) hs) := hD
          refine lv_aload_n hx hb dX7_set_45 rfl (lv_at hl 0 rfl) ?_
          refine va_get (D := (dC, dI)) (ci := 7) (v := .int (0 : Int32)) (C := RX7) (T := TX7) (N := 15) hx hb hts hin7 hown hK hP 0 rfl rfl 7 (by decide) (hw_ hts 1 rfl) (fun _ h9 => h9) rfl dX7_set_46 ?_
          refine lv_if_le (tgt := 54) hx hb dX7_set_49 (by decide) (fun _ => ?_) (fun q => absurd (by decide) q)
          refine lv_aload_n hx hb dX7_set_54 rfl (lv_at hl 0 rfl) ?_
          obtain ⟨u18, hc19, hR⟩ := ob1_e hR
          have hF := va_free (wc := wMo cI aM (pset M 7 (fun _ => (0 : Int32))) hs) hD hS hA [0, 1, 2, 3, 4, 5, 6, 7, 8] rfl
          refine va_callv (va_runV (As := []) (rest := []) ⟨hx, hb, hml, hown, hts⟩ (met_X7_save l dC dI cI cZ cS aM (pset M 7 (fun _ => (0 : Int32))) hs H4.size u18 hc19) (cwV 0 hts gX7_set_X7_save rfl rfl rfl (by decide +kernel) ⟨Nat.le_of_ble_eq_true rfl, Nat.le_of_ble_eq_true rfl⟩) (pV (wc := wMo cI aM (pset M 7 (fun _ => (0 : Int32))) hs) (ci := 7) (q0 := 0) hK hP hD hN [0, 1, 2, 3, 4, 5, 6, 7, 8] rfl (by decide) rfl rfl) rfl rfl hl.1 rfl (lv_room (Nat.le_of_ble_eq_true rfl)) dX7_set_55 ⟨Nat.zero_le _, Nat.zero_le _⟩) hS (fun q _ h => hF q h) hF (fun  u18 t H5 locs ht hvm hw hB hz1 hk1 hS => ?_)
          try dsimp only at hw hB
          rw [ht] at hB
          cases hw
          have hP := wrk (w2 := wMo cI aM u18 hs) hP hD [0, 1, 2, 3, 4, 5, 6, 7, 8] rfl (by decide) hk1 hB rfl rfl
          have hD := D_addr (w1 := wMo cI aM u18 hs) hD rfl
          refine lv_aload_n hx hb dX7_set_58 rfl (lv_at hl 0 rfl) ?_
          refine va_get (D := (dC, dI)) (ci := 7) (v := .ref (aM 1)) (C := RX7) (T := TX7) (N := 15) hx hb hts hin7 hown hK hP 0 rfl rfl 0 (by decide) (hw_ hts 2 rfl) (fun _ h9 => h9) rfl dX7_set_59 ?_
          refine lv_iload_n hx hb dX7_set_62 rfl (lv_at hl 1 rfl) ?_
          obtain ⟨hix20, hR⟩ := ck_some hR
          refine va_iald (f := (u18 0)) hx hb hK hP 1 0 rfl rfl hix20 dX7_set_63 ?_
          refine lv_topi (fun v21 hv21 => ?_)
          have hR := bd_n hv21 hR
          refine lv_istore_n (lv' := [(3, .int v21), (0, .ref (aM 0)), (1, .int p1), (2, .int p2)]) hx hb dX7_set_64 rfl hl (by decide) rfl (fun ls hl => ?_)
          refine lv_aload_n hx hb dX7_set_65 rfl (lv_at hl 1 rfl) ?_
          refine va_get (D := (dC, dI)) (ci := 7) (v := .ref (aM 1)) (C := RX7) (T := TX7) (N := 15) hx hb hts hin7 hown hK hP 0 rfl rfl 0 (by decide) (hw_ hts 2 rfl) (fun _ h9 => h9) rfl dX7_set_66 ?_
          refine lv_iload_n hx hb dX7_set_69 rfl (lv_at hl 2 rfl) ?_
          refine lv_iload_n hx hb dX7_set_70 rfl (lv_at hl 3 rfl) ?_
          obtain ⟨hix22, hR⟩ := ck_some hR
          refine va_iast (f := (u18 0)) hx hb hK hP hD hS 1 0 rfl rfl hix22 dX7_set_71 (fun H6 locs hP hD hS => ?_)
          have hP : va_P (dC, dI) vwCl (wMo cI aM (pset u18 0 (upd (u18 0) (ix p1) p2)) hs) H6 := hP
          have hD : va_D A (wMo cI aM (pset u18 0 (upd (u18 0) (ix p1) p2)) hs) := hD
          obtain ⟨Mb23, hMb23⟩ : ∃ z : Pic, z = (pset u18 0 (upd (u18 0) (ix p1) p2)) := ⟨_, rfl⟩
          rw [← hMb23] at hP hD
          have hR := bd_n hMb23 hR
          refine lv_iload_n hx hb dX7_set_72 rfl (lv_at hl 0 rfl) ?_
          exact W.iret (v := v21) hx hb hr (fun t ht hW => ⟨⟨v21, Mb23, rfl, Option.some.inj hR, P_at ht hP⟩, hS.F ht⟩) hS.2.2 dX7_set_73
        · rw [if_neg c_17] at hR
          refine lv_iconst (v := (3 : Int32)) hx hb dX7_set_37 (by decide) ?_
          refine lv_goto (tgt := 42) hx hb dX7_set_38 (by decide) ?_
          refine va_put (D := (dC, dI)) (ci := 7) (v := .int (3 : Int32)) (ty := .int) (C := RX7) (T := TX7) (N := 15) hx hb hts hin7 tyX7 tyX7_ok nmX7 hown hK hP hD hS 0 rfl rfl 7 (by decide) (hw_ hts 1 rfl) (fun _ h9 => h9) rfl (by decide +kernel) rfl rfl (Nat.le_of_ble_eq_true rfl) dX7_set_42 (fun H4 locs hP hD hS => ?_)
          have hP : va_P (dC, dI) vwCl (wMo cI aM (pset M 7 (fun _ => (3 : Int32))) hs) H4 := hP
          have hD : va_D A (wMo cI aM (pset M 7 (fun _ => (3 : Int32))) hs) := hD
          refine lv_aload_n hx hb dX7_set_45 rfl (lv_at hl 0 rfl) ?_
          refine va_get (D := (dC, dI)) (ci := 7) (v := .int (3 : Int32)) (C := RX7) (T := TX7) (N := 15) hx hb hts hin7 hown hK hP 0 rfl rfl 7 (by decide) (hw_ hts 1 rfl) (fun _ h9 => h9) rfl dX7_set_46 ?_
          refine lv_if_le (tgt := 54) hx hb dX7_set_49 (by decide) (fun q => absurd q (by decide)) (fun _ => ?_)
          refine lv_iconst (v := (0 : Int32)) hx hb dX7_set_52 (by decide) ?_
          exact W.iret (v := (0 : Int32)) hx hb hr (fun t ht hW => ⟨⟨(0 : Int32), (pset M 7 (fun _ => (3 : Int32))), rfl, Option.some.inj hR, P_at ht hP⟩, hS.F ht⟩) hS.2.2 dX7_set_53
    · rw [if_pos c_6] at hR
      refine lv_iconst (v := (2 : Int32)) hx hb dX7_set_20 (by decide) ?_
      refine lv_goto (tgt := 42) hx hb dX7_set_21 (by decide) ?_
      refine va_put (D := (dC, dI)) (ci := 7) (v := .int (2 : Int32)) (ty := .int) (C := RX7) (T := TX7) (N := 15) hx hb hts hin7 tyX7 tyX7_ok nmX7 hown hK hP hD hS 0 rfl rfl 7 (by decide) (hw_ hts 1 rfl) (fun _ h9 => h9) rfl (by decide +kernel) rfl rfl (Nat.le_of_ble_eq_true rfl) dX7_set_42 (fun H3 locs hP hD hS => ?_)
      have hP : va_P (dC, dI) vwCl (wMo cI aM (pset M 7 (fun _ => (2 : Int32))) hs) H3 := hP
      have hD : va_D A (wMo cI aM (pset M 7 (fun _ => (2 : Int32))) hs) := hD
      refine lv_aload_n hx hb dX7_set_45 rfl (lv_at hl 0 rfl) ?_
      refine va_get (D := (dC, dI)) (ci := 7) (v := .int (2 : Int32)) (C := RX7) (T := TX7) (N := 15) hx hb hts hin7 hown hK hP 0 rfl rfl 7 (by decide) (hw_ hts 1 rfl) (fun _ h9 => h9) rfl dX7_set_46 ?_
      refine lv_if_le (tgt := 54) hx hb dX7_set_49 (by decide) (fun q => absurd q (by decide)) (fun _ => ?_)
      refine lv_iconst (v := (0 : Int32)) hx hb dX7_set_52 (by decide) ?_
      exact W.iret (v := (0 : Int32)) hx hb hr (fun t ht hW => ⟨⟨(0 : Int32), (pset M 7 (fun _ => (2 : Int32))), rfl, Option.some.inj hR, P_at ht hP⟩, hS.F ht⟩) hS.2.2 dX7_set_53
  · rw [if_pos c_3] at hR
    refine lv_iconst (v := (1 : Int32)) hx hb dX7_set_8 (by decide) ?_
    refine lv_goto (tgt := 42) hx hb dX7_set_9 (by decide) ?_
    refine va_put (D := (dC, dI)) (ci := 7) (v := .int (1 : Int32)) (ty := .int) (C := RX7) (T := TX7) (N := 15) hx hb hts hin7 tyX7 tyX7_ok nmX7 hown hK hP hD hS 0 rfl rfl 7 (by decide) (hw_ hts 1 rfl) (fun _ h9 => h9) rfl (by decide +kernel) rfl rfl (Nat.le_of_ble_eq_true rfl) dX7_set_42 (fun H2 locs hP hD hS => ?_)
    have hP : va_P (dC, dI) vwCl (wMo cI aM (pset M 7 (fun _ => (1 : Int32))) hs) H2 := hP
    have hD : va_D A (wMo cI aM (pset M 7 (fun _ => (1 : Int32))) hs) := hD
    refine lv_aload_n hx hb dX7_set_45 rfl (lv_at hl 0 rfl) ?_
    refine va_get (D := (dC, dI)) (ci := 7) (v := .int (1 : Int32)) (C := RX7) (T := TX7) (N := 15) hx hb hts hin7 hown hK hP 0 rfl rfl 7 (by decide) (hw_ hts 1 rfl) (fun _ h9 => h9) rfl dX7_set_46 ?_
    refine lv_if_le (tgt := 54) hx hb dX7_set_49 (by decide) (fun q => absurd q (by decide)) (fun _ => ?_)
    refine lv_iconst (v := (0 : Int32)) hx hb dX7_set_52 (by decide) ?_
    exact W.iret (v := (0 : Int32)) hx hb hr (fun t ht hW => ⟨⟨(0 : Int32), (pset M 7 (fun _ => (1 : Int32))), rfl, Option.some.inj hR, P_at ht hP⟩, hS.F ht⟩) hS.2.2 dX7_set_53
