/-! the constructor of the law's own reckoner -/
def m7 : Nat → Nat → Int32
  | 0 => upd (upd (upd (fun _ => 0) (ix (0 : Int32)) (2 : Int32)) (ix (1 : Int32)) (3 : Int32)) (ix (2 : Int32)) (200 : Int32)
  | k + 1 => upd (m7 k) (89 + k) (-1 : Int32)
def M7 (k : Nat) : Pic := fun j => match j with
  | 0 => m7 k
  | _ => fun _ => 0
theorem m7_lt {k : Nat} (h : k < 84) : ¬ (84 : Int32) ≤ nI k := by
  revert k
  decide +kernel
theorem m7_in {k : Nat} (h : k < 84) : vp_in ((89 : Int32) + nI k) 173 := by
  revert k
  unfold vp_in
  decide +kernel
theorem m7_ix {k : Nat} (h : k < 84) : ((89 : Int32) + nI k).toNatClampNeg = 89 + k := by
  revert k
  decide +kernel
theorem m7_s {k : Nat} (h : k < 84) : nI k + 1 = nI (k + 1) := by
  revert k
  decide +kernel
theorem m7_up {k : Nat} (h : k < 84) : ((89 : Int32) + nI k).toNatClampNeg = 89 + k := m7_ix h

abbrev rm_X7_init : Room := { frames := 1, cells := 8, slots := 1637, locals := 20 }
abbrev q_X7_init (dC : Nat → ClassId) (dI : Nat → Nat → Nat) (cI cZ cS : ClassId) (h0 : Nat) (A : Nat → Prop) : Array Value → State → Outcome → State → Prop := va_Qv (fun (u : Nat → Nat) => u 0 = h0) (fun u t => va_P (dC, dI) vwCl (wMo cI u (M7 84) 0) t.heap ∧ va_D A (wMo cI u (M7 84) 0)) A
set_option maxHeartbeats 4000000 in
set_option maxRecDepth 100000 in
theorem met_X7_init (l : Launch) (dC : Nat → ClassId) (dI : Nat → Nat → Nat) (cI cZ cS : ClassId) (h0 : Nat) (sz : Nat) : Met l yX7_init wsX7_init rm_X7_init (va_Pc [.ref h0] (pW (dC, dI) (tyS cI cZ cS) ([(h0, .inr (7, [.null, .int 0, .null, .null, .null, .int 0, .null, .int 0, .null, .null, .null, .int 0, .int 0, .int 0, .long 0]))]) sz)) (q_X7_init dC dI cI cZ cS h0 (va_A ([(h0, .inr (7, [.null, .int 0, .null, .null, .null, .int 0, .null, .int 0, .null, .null, .null, .int 0, .int 0, .int 0, .long 0]))]) sz)) 8 1637 (va_A ([(h0, .inr (7, [.null, .int 0, .null, .null, .null, .int 0, .null, .int 0, .null, .null, .null, .int 0, .int 0, .int 0, .long 0]))]) sz) := by
  refine Met.ofW (cc := cX7_init) (maxL := 2) (ret := none) (by decide) rfl ?_
  intro p e s m args below meth c s₁ B hml hv
  obtain ⟨rfl, hsz, hP, hK, hD0, hN⟩ := hv
  have hx := B.exec
  have hb := B.bytes
  have hr := B.returns
  have hts := atoms_spec (ws := wsX7_init) B.pre
  have hown : s.vm.findClass RX7 = some m.cls := findClass_of_methodNamed B.named
  have hlocks := B.notSynchronized
  have hin : meth.name = "<init>" := (name_of_methodNamed B.named B.method).1
  subst hsz
  have hD := hD0.self (sz := s.heap.size)
  generalize hAe : va_A ([(h0, .inr (7, [.null, .int 0, .null, .null, .null, .int 0, .null, .int 0, .null, .null, .null, .int 0, .int 0, .int 0, .long 0]))]) s.heap.size = A at hD ⊢
  have hA : ∀ q : Nat, s.heap.size ≤ q → A q := fun q h => by rw [← hAe]; exact Or.inr h
  have hS : va_S A s.heap s.heap [] := va_S.rf
  have hP : va_P (dC, dI) vwCl ([(h0, .inr (7, [.null, .int 0, .null, .null, .null, .int 0, .null, .int 0, .null, .null, .null, .int 0, .int 0, .int 0, .long 0]))]) s.heap := hP
  have hin1 : ∀ w ∈ wsX70, w ∈ wsX7_init := by decide +kernel
  have hl := lv_entry ([.ref h0]) (n := 2) (Nat.le_of_ble_eq_true rfl)
  rw [lg_entry_eq]
  generalize (lg_sl ([.ref h0]) ++ List.replicate (2 - (lg_sl ([.ref h0])).length) Slot.unset).toArray = ls at hl ⊢
  have hl : lv_has ls 2 [(0, .ref h0)] := hl
  refine lv_aload_n hx hb dX7_init_0 rfl (lv_at hl 0 rfl) ?_
  refine W.objInit hx hb hown (hw_ hts 1 rfl) (hw_ hts 2 rfl) (hw_ hts 3 rfl) rfl (by rw [hml]; exact hl.1) rfl dX7_init_1 (Nat.le_of_ble_eq_true rfl) (Nat.le_of_ble_eq_true rfl) ?_
  refine W.eq (g2 := F0 m 4 ls []) rfl ?_
  refine lv_aload_n hx hb dX7_init_4 rfl (lv_at hl 0 rfl) ?_
  refine lv_sipush (v := (173 : Int32)) hx hb dX7_init_5 (by decide) ?_
  refine va_newa (atype := .int) (ty := .int) (a0 := (173, .inl (fun _ => 0))) (n := (173 : Int32)) (N' := 173) hx hb (hw_ hts 4 rfl) rfl hK hP hD hS hA (fun _ => rfl) (by decide) rfl (Nat.le_of_ble_eq_true rfl) (Nat.le_of_ble_eq_true rfl) (Nat.le_of_ble_eq_true rfl) dX7_init_8 (fun q1 cA H1 hK1 hP hD hS => ?_)
  have e1 := ty_eq 0 hK1 rfl
  rw [e1] at hP hD
  clear hK1 e1
  have hP : va_P (dC, dI) vwCl ([(h0, .inr (7, [.null, .int 0, .null, .null, .null, .int 0, .null, .int 0, .null, .null, .null, .int 0, .int 0, .int 0, .long 0])), (q1, .inl (cI, 173, .inl (fun _ => 0)))]) H1 := hP
  have hD : va_D A ([(h0, .inr (7, [.null, .int 0, .null, .null, .null, .int 0, .null, .int 0, .null, .null, .null, .int 0, .int 0, .int 0, .long 0])), (q1, .inl (cI, 173, .inl (fun _ => 0)))]) := hD
  refine va_putF (D := (dC, dI)) (ci := 7) (v := .ref q1) (ty := tyX7 0) (C := RX7) (T := TX7) (N := 15) hx hb hts hin1 tyX7 tyX7_ok nmX7 hown hK hP hD hS 0 rfl rfl 0 (by decide) (hw_ hts 5 rfl) (fun _ h9 => h9) rfl hin rfl (tyX7_ok 0 (by decide)) rfl rfl (Nat.le_of_ble_eq_true rfl) dX7_init_10 (fun H2 locs hP hD hS => ?_)
  have hP : va_P (dC, dI) vwCl ([(h0, .inr (7, [.ref q1, .int 0, .null, .null, .null, .int 0, .null, .int 0, .null, .null, .null, .int 0, .int 0, .int 0, .long 0])), (q1, .inl (cI, 173, .inl (fun _ => 0)))]) H2 := hP
  have hD : va_D A ([(h0, .inr (7, [.ref q1, .int 0, .null, .null, .null, .int 0, .null, .int 0, .null, .null, .null, .int 0, .int 0, .int 0, .long 0])), (q1, .inl (cI, 173, .inl (fun _ => 0)))]) := hD
  refine lv_aload_n hx hb dX7_init_13 rfl (lv_at hl 0 rfl) ?_
  refine lv_sipush (v := (1038 : Int32)) hx hb dX7_init_14 (by decide) ?_
  refine va_newa (atype := .int) (ty := .int) (a0 := (1038, .inl (fun _ => 0))) (n := (1038 : Int32)) (N' := 1038) hx hb (hw_ hts 4 rfl) rfl hK hP hD hS hA (fun _ => rfl) (by decide) rfl (Nat.le_of_ble_eq_true rfl) (Nat.le_of_ble_eq_true rfl) (Nat.le_of_ble_eq_true rfl) dX7_init_17 (fun q2 cA H3 hK1 hP hD hS => ?_)
  have e1 := ty_eq 0 hK1 rfl
  rw [e1] at hP hD
  clear hK1 e1
  have hP : va_P (dC, dI) vwCl ([(h0, .inr (7, [.ref q1, .int 0, .null, .null, .null, .int 0, .null, .int 0, .null, .null, .null, .int 0, .int 0, .int 0, .long 0])), (q1, .inl (cI, 173, .inl (fun _ => 0))), (q2, .inl (cI, 1038, .inl (fun _ => 0)))]) H3 := hP
  have hD : va_D A ([(h0, .inr (7, [.ref q1, .int 0, .null, .null, .null, .int 0, .null, .int 0, .null, .null, .null, .int 0, .int 0, .int 0, .long 0])), (q1, .inl (cI, 173, .inl (fun _ => 0))), (q2, .inl (cI, 1038, .inl (fun _ => 0)))]) := hD
  refine va_putF (D := (dC, dI)) (ci := 7) (v := .ref q2) (ty := tyX7 2) (C := RX7) (T := TX7) (N := 15) hx hb hts hin1 tyX7 tyX7_ok nmX7 hown hK hP hD hS 0 rfl rfl 2 (by decide) (hw_ hts 6 rfl) (fun _ h9 => h9) rfl hin rfl (tyX7_ok 2 (by decide)) rfl rfl (Nat.le_of_ble_eq_true rfl) dX7_init_19 (fun H4 locs hP hD hS => ?_)
  have hP : va_P (dC, dI) vwCl ([(h0, .inr (7, [.ref q1, .int 0, .ref q2, .null, .null, .int 0, .null, .int 0, .null, .null, .null, .int 0, .int 0, .int 0, .long 0])), (q1, .inl (cI, 173, .inl (fun _ => 0))), (q2, .inl (cI, 1038, .inl (fun _ => 0)))]) H4 := hP
  have hD : va_D A ([(h0, .inr (7, [.ref q1, .int 0, .ref q2, .null, .null, .int 0, .null, .int 0, .null, .null, .null, .int 0, .int 0, .int 0, .long 0])), (q1, .inl (cI, 173, .inl (fun _ => 0))), (q2, .inl (cI, 1038, .inl (fun _ => 0)))]) := hD
  refine lv_aload_n hx hb dX7_init_22 rfl (lv_at hl 0 rfl) ?_
  refine lv_sipush (v := (168 : Int32)) hx hb dX7_init_23 (by decide) ?_
  refine va_newa (atype := .int) (ty := .int) (a0 := (168, .inl (fun _ => 0))) (n := (168 : Int32)) (N' := 168) hx hb (hw_ hts 4 rfl) rfl hK hP hD hS hA (fun _ => rfl) (by decide) rfl (Nat.le_of_ble_eq_true rfl) (Nat.le_of_ble_eq_true rfl) (Nat.le_of_ble_eq_true rfl) dX7_init_26 (fun q3 cA H5 hK1 hP hD hS => ?_)
  have e1 := ty_eq 0 hK1 rfl
  rw [e1] at hP hD
  clear hK1 e1
  have hP : va_P (dC, dI) vwCl ([(h0, .inr (7, [.ref q1, .int 0, .ref q2, .null, .null, .int 0, .null, .int 0, .null, .null, .null, .int 0, .int 0, .int 0, .long 0])), (q1, .inl (cI, 173, .inl (fun _ => 0))), (q2, .inl (cI, 1038, .inl (fun _ => 0))), (q3, .inl (cI, 168, .inl (fun _ => 0)))]) H5 := hP
  have hD : va_D A ([(h0, .inr (7, [.ref q1, .int 0, .ref q2, .null, .null, .int 0, .null, .int 0, .null, .null, .null, .int 0, .int 0, .int 0, .long 0])), (q1, .inl (cI, 173, .inl (fun _ => 0))), (q2, .inl (cI, 1038, .inl (fun _ => 0))), (q3, .inl (cI, 168, .inl (fun _ => 0)))]) := hD
  refine va_putF (D := (dC, dI)) (ci := 7) (v := .ref q3) (ty := tyX7 3) (C := RX7) (T := TX7) (N := 15) hx hb hts hin1 tyX7 tyX7_ok nmX7 hown hK hP hD hS 0 rfl rfl 3 (by decide) (hw_ hts 7 rfl) (fun _ h9 => h9) rfl hin rfl (tyX7_ok 3 (by decide)) rfl rfl (Nat.le_of_ble_eq_true rfl) dX7_init_28 (fun H6 locs hP hD hS => ?_)
  have hP : va_P (dC, dI) vwCl ([(h0, .inr (7, [.ref q1, .int 0, .ref q2, .ref q3, .null, .int 0, .null, .int 0, .null, .null, .null, .int 0, .int 0, .int 0, .long 0])), (q1, .inl (cI, 173, .inl (fun _ => 0))), (q2, .inl (cI, 1038, .inl (fun _ => 0))), (q3, .inl (cI, 168, .inl (fun _ => 0)))]) H6 := hP
  have hD : va_D A ([(h0, .inr (7, [.ref q1, .int 0, .ref q2, .ref q3, .null, .int 0, .null, .int 0, .null, .null, .null, .int 0, .int 0, .int 0, .long 0])), (q1, .inl (cI, 173, .inl (fun _ => 0))), (q2, .inl (cI, 1038, .inl (fun _ => 0))), (q3, .inl (cI, 168, .inl (fun _ => 0)))]) := hD
  refine lv_aload_n hx hb dX7_init_31 rfl (lv_at hl 0 rfl) ?_
  refine lv_iconst (v := (2 : Int32)) hx hb dX7_init_32 (by decide) ?_
  refine va_newa (atype := .int) (ty := .int) (a0 := (2, .inl (fun _ => 0))) (n := (2 : Int32)) (N' := 2) hx hb (hw_ hts 4 rfl) rfl hK hP hD hS hA (fun _ => rfl) (by decide) rfl (Nat.le_of_ble_eq_true rfl) (Nat.le_of_ble_eq_true rfl) (Nat.le_of_ble_eq_true rfl) dX7_init_33 (fun q4 cA H7 hK1 hP hD hS => ?_)
  have e1 := ty_eq 0 hK1 rfl
  rw [e1] at hP hD
  clear hK1 e1
  have hP : va_P (dC, dI) vwCl ([(h0, .inr (7, [.ref q1, .int 0, .ref q2, .ref q3, .null, .int 0, .null, .int 0, .null, .null, .null, .int 0, .int 0, .int 0, .long 0])), (q1, .inl (cI, 173, .inl (fun _ => 0))), (q2, .inl (cI, 1038, .inl (fun _ => 0))), (q3, .inl (cI, 168, .inl (fun _ => 0))), (q4, .inl (cI, 2, .inl (fun _ => 0)))]) H7 := hP
  have hD : va_D A ([(h0, .inr (7, [.ref q1, .int 0, .ref q2, .ref q3, .null, .int 0, .null, .int 0, .null, .null, .null, .int 0, .int 0, .int 0, .long 0])), (q1, .inl (cI, 173, .inl (fun _ => 0))), (q2, .inl (cI, 1038, .inl (fun _ => 0))), (q3, .inl (cI, 168, .inl (fun _ => 0))), (q4, .inl (cI, 2, .inl (fun _ => 0)))]) := hD
  refine va_putF (D := (dC, dI)) (ci := 7) (v := .ref q4) (ty := tyX7 4) (C := RX7) (T := TX7) (N := 15) hx hb hts hin1 tyX7 tyX7_ok nmX7 hown hK hP hD hS 0 rfl rfl 4 (by decide) (hw_ hts 8 rfl) (fun _ h9 => h9) rfl hin rfl (tyX7_ok 4 (by decide)) rfl rfl (Nat.le_of_ble_eq_true rfl) dX7_init_35 (fun H8 locs hP hD hS => ?_)
  have hP : va_P (dC, dI) vwCl ([(h0, .inr (7, [.ref q1, .int 0, .ref q2, .ref q3, .ref q4, .int 0, .null, .int 0, .null, .null, .null, .int 0, .int 0, .int 0, .long 0])), (q1, .inl (cI, 173, .inl (fun _ => 0))), (q2, .inl (cI, 1038, .inl (fun _ => 0))), (q3, .inl (cI, 168, .inl (fun _ => 0))), (q4, .inl (cI, 2, .inl (fun _ => 0)))]) H8 := hP
  have hD : va_D A ([(h0, .inr (7, [.ref q1, .int 0, .ref q2, .ref q3, .ref q4, .int 0, .null, .int 0, .null, .null, .null, .int 0, .int 0, .int 0, .long 0])), (q1, .inl (cI, 173, .inl (fun _ => 0))), (q2, .inl (cI, 1038, .inl (fun _ => 0))), (q3, .inl (cI, 168, .inl (fun _ => 0))), (q4, .inl (cI, 2, .inl (fun _ => 0)))]) := hD
  refine lv_aload_n hx hb dX7_init_38 rfl (lv_at hl 0 rfl) ?_
  refine lv_bipush (v := (60 : Int32)) hx hb dX7_init_39 (by decide) ?_
  refine va_newa (atype := .int) (ty := .int) (a0 := (60, .inl (fun _ => 0))) (n := (60 : Int32)) (N' := 60) hx hb (hw_ hts 4 rfl) rfl hK hP hD hS hA (fun _ => rfl) (by decide) rfl (Nat.le_of_ble_eq_true rfl) (Nat.le_of_ble_eq_true rfl) (Nat.le_of_ble_eq_true rfl) dX7_init_41 (fun q5 cA H9 hK1 hP hD hS => ?_)
  have e1 := ty_eq 0 hK1 rfl
  rw [e1] at hP hD
  clear hK1 e1
  have hP : va_P (dC, dI) vwCl ([(h0, .inr (7, [.ref q1, .int 0, .ref q2, .ref q3, .ref q4, .int 0, .null, .int 0, .null, .null, .null, .int 0, .int 0, .int 0, .long 0])), (q1, .inl (cI, 173, .inl (fun _ => 0))), (q2, .inl (cI, 1038, .inl (fun _ => 0))), (q3, .inl (cI, 168, .inl (fun _ => 0))), (q4, .inl (cI, 2, .inl (fun _ => 0))), (q5, .inl (cI, 60, .inl (fun _ => 0)))]) H9 := hP
  have hD : va_D A ([(h0, .inr (7, [.ref q1, .int 0, .ref q2, .ref q3, .ref q4, .int 0, .null, .int 0, .null, .null, .null, .int 0, .int 0, .int 0, .long 0])), (q1, .inl (cI, 173, .inl (fun _ => 0))), (q2, .inl (cI, 1038, .inl (fun _ => 0))), (q3, .inl (cI, 168, .inl (fun _ => 0))), (q4, .inl (cI, 2, .inl (fun _ => 0))), (q5, .inl (cI, 60, .inl (fun _ => 0)))]) := hD
  refine va_putF (D := (dC, dI)) (ci := 7) (v := .ref q5) (ty := tyX7 6) (C := RX7) (T := TX7) (N := 15) hx hb hts hin1 tyX7 tyX7_ok nmX7 hown hK hP hD hS 0 rfl rfl 6 (by decide) (hw_ hts 9 rfl) (fun _ h9 => h9) rfl hin rfl (tyX7_ok 6 (by decide)) rfl rfl (Nat.le_of_ble_eq_true rfl) dX7_init_43 (fun H10 locs hP hD hS => ?_)
  have hP : va_P (dC, dI) vwCl ([(h0, .inr (7, [.ref q1, .int 0, .ref q2, .ref q3, .ref q4, .int 0, .ref q5, .int 0, .null, .null, .null, .int 0, .int 0, .int 0, .long 0])), (q1, .inl (cI, 173, .inl (fun _ => 0))), (q2, .inl (cI, 1038, .inl (fun _ => 0))), (q3, .inl (cI, 168, .inl (fun _ => 0))), (q4, .inl (cI, 2, .inl (fun _ => 0))), (q5, .inl (cI, 60, .inl (fun _ => 0)))]) H10 := hP
  have hD : va_D A ([(h0, .inr (7, [.ref q1, .int 0, .ref q2, .ref q3, .ref q4, .int 0, .ref q5, .int 0, .null, .null, .null, .int 0, .int 0, .int 0, .long 0])), (q1, .inl (cI, 173, .inl (fun _ => 0))), (q2, .inl (cI, 1038, .inl (fun _ => 0))), (q3, .inl (cI, 168, .inl (fun _ => 0))), (q4, .inl (cI, 2, .inl (fun _ => 0))), (q5, .inl (cI, 60, .inl (fun _ => 0)))]) := hD
  refine lv_aload_n hx hb dX7_init_46 rfl (lv_at hl 0 rfl) ?_
  refine lv_bipush (v := (84 : Int32)) hx hb dX7_init_47 (by decide) ?_
  refine va_newa (atype := .int) (ty := .int) (a0 := (84, .inl (fun _ => 0))) (n := (84 : Int32)) (N' := 84) hx hb (hw_ hts 4 rfl) rfl hK hP hD hS hA (fun _ => rfl) (by decide) rfl (Nat.le_of_ble_eq_true rfl) (Nat.le_of_ble_eq_true rfl) (Nat.le_of_ble_eq_true rfl) dX7_init_49 (fun q6 cA H11 hK1 hP hD hS => ?_)
  have e1 := ty_eq 0 hK1 rfl
  rw [e1] at hP hD
  clear hK1 e1
  have hP : va_P (dC, dI) vwCl ([(h0, .inr (7, [.ref q1, .int 0, .ref q2, .ref q3, .ref q4, .int 0, .ref q5, .int 0, .null, .null, .null, .int 0, .int 0, .int 0, .long 0])), (q1, .inl (cI, 173, .inl (fun _ => 0))), (q2, .inl (cI, 1038, .inl (fun _ => 0))), (q3, .inl (cI, 168, .inl (fun _ => 0))), (q4, .inl (cI, 2, .inl (fun _ => 0))), (q5, .inl (cI, 60, .inl (fun _ => 0))), (q6, .inl (cI, 84, .inl (fun _ => 0)))]) H11 := hP
  have hD : va_D A ([(h0, .inr (7, [.ref q1, .int 0, .ref q2, .ref q3, .ref q4, .int 0, .ref q5, .int 0, .null, .null, .null, .int 0, .int 0, .int 0, .long 0])), (q1, .inl (cI, 173, .inl (fun _ => 0))), (q2, .inl (cI, 1038, .inl (fun _ => 0))), (q3, .inl (cI, 168, .inl (fun _ => 0))), (q4, .inl (cI, 2, .inl (fun _ => 0))), (q5, .inl (cI, 60, .inl (fun _ => 0))), (q6, .inl (cI, 84, .inl (fun _ => 0)))]) := hD
  refine va_putF (D := (dC, dI)) (ci := 7) (v := .ref q6) (ty := tyX7 8) (C := RX7) (T := TX7) (N := 15) hx hb hts hin1 tyX7 tyX7_ok nmX7 hown hK hP hD hS 0 rfl rfl 8 (by decide) (hw_ hts 10 rfl) (fun _ h9 => h9) rfl hin rfl (tyX7_ok 8 (by decide)) rfl rfl (Nat.le_of_ble_eq_true rfl) dX7_init_51 (fun H12 locs hP hD hS => ?_)
  have hP : va_P (dC, dI) vwCl ([(h0, .inr (7, [.ref q1, .int 0, .ref q2, .ref q3, .ref q4, .int 0, .ref q5, .int 0, .ref q6, .null, .null, .int 0, .int 0, .int 0, .long 0])), (q1, .inl (cI, 173, .inl (fun _ => 0))), (q2, .inl (cI, 1038, .inl (fun _ => 0))), (q3, .inl (cI, 168, .inl (fun _ => 0))), (q4, .inl (cI, 2, .inl (fun _ => 0))), (q5, .inl (cI, 60, .inl (fun _ => 0))), (q6, .inl (cI, 84, .inl (fun _ => 0)))]) H12 := hP
  have hD : va_D A ([(h0, .inr (7, [.ref q1, .int 0, .ref q2, .ref q3, .ref q4, .int 0, .ref q5, .int 0, .ref q6, .null, .null, .int 0, .int 0, .int 0, .long 0])), (q1, .inl (cI, 173, .inl (fun _ => 0))), (q2, .inl (cI, 1038, .inl (fun _ => 0))), (q3, .inl (cI, 168, .inl (fun _ => 0))), (q4, .inl (cI, 2, .inl (fun _ => 0))), (q5, .inl (cI, 60, .inl (fun _ => 0))), (q6, .inl (cI, 84, .inl (fun _ => 0)))]) := hD
  refine lv_aload_n hx hb dX7_init_54 rfl (lv_at hl 0 rfl) ?_
  refine lv_bipush (v := (84 : Int32)) hx hb dX7_init_55 (by decide) ?_
  refine va_newa (atype := .int) (ty := .int) (a0 := (84, .inl (fun _ => 0))) (n := (84 : Int32)) (N' := 84) hx hb (hw_ hts 4 rfl) rfl hK hP hD hS hA (fun _ => rfl) (by decide) rfl (Nat.le_of_ble_eq_true rfl) (Nat.le_of_ble_eq_true rfl) (Nat.le_of_ble_eq_true rfl) dX7_init_57 (fun q7 cA H13 hK1 hP hD hS => ?_)
  have e1 := ty_eq 0 hK1 rfl
  rw [e1] at hP hD
  clear hK1 e1
  have hP : va_P (dC, dI) vwCl ([(h0, .inr (7, [.ref q1, .int 0, .ref q2, .ref q3, .ref q4, .int 0, .ref q5, .int 0, .ref q6, .null, .null, .int 0, .int 0, .int 0, .long 0])), (q1, .inl (cI, 173, .inl (fun _ => 0))), (q2, .inl (cI, 1038, .inl (fun _ => 0))), (q3, .inl (cI, 168, .inl (fun _ => 0))), (q4, .inl (cI, 2, .inl (fun _ => 0))), (q5, .inl (cI, 60, .inl (fun _ => 0))), (q6, .inl (cI, 84, .inl (fun _ => 0))), (q7, .inl (cI, 84, .inl (fun _ => 0)))]) H13 := hP
  have hD : va_D A ([(h0, .inr (7, [.ref q1, .int 0, .ref q2, .ref q3, .ref q4, .int 0, .ref q5, .int 0, .ref q6, .null, .null, .int 0, .int 0, .int 0, .long 0])), (q1, .inl (cI, 173, .inl (fun _ => 0))), (q2, .inl (cI, 1038, .inl (fun _ => 0))), (q3, .inl (cI, 168, .inl (fun _ => 0))), (q4, .inl (cI, 2, .inl (fun _ => 0))), (q5, .inl (cI, 60, .inl (fun _ => 0))), (q6, .inl (cI, 84, .inl (fun _ => 0))), (q7, .inl (cI, 84, .inl (fun _ => 0)))]) := hD
  refine va_putF (D := (dC, dI)) (ci := 7) (v := .ref q7) (ty := tyX7 9) (C := RX7) (T := TX7) (N := 15) hx hb hts hin1 tyX7 tyX7_ok nmX7 hown hK hP hD hS 0 rfl rfl 9 (by decide) (hw_ hts 11 rfl) (fun _ h9 => h9) rfl hin rfl (tyX7_ok 9 (by decide)) rfl rfl (Nat.le_of_ble_eq_true rfl) dX7_init_59 (fun H14 locs hP hD hS => ?_)
  have hP : va_P (dC, dI) vwCl ([(h0, .inr (7, [.ref q1, .int 0, .ref q2, .ref q3, .ref q4, .int 0, .ref q5, .int 0, .ref q6, .ref q7, .null, .int 0, .int 0, .int 0, .long 0])), (q1, .inl (cI, 173, .inl (fun _ => 0))), (q2, .inl (cI, 1038, .inl (fun _ => 0))), (q3, .inl (cI, 168, .inl (fun _ => 0))), (q4, .inl (cI, 2, .inl (fun _ => 0))), (q5, .inl (cI, 60, .inl (fun _ => 0))), (q6, .inl (cI, 84, .inl (fun _ => 0))), (q7, .inl (cI, 84, .inl (fun _ => 0)))]) H14 := hP
  have hD : va_D A ([(h0, .inr (7, [.ref q1, .int 0, .ref q2, .ref q3, .ref q4, .int 0, .ref q5, .int 0, .ref q6, .ref q7, .null, .int 0, .int 0, .int 0, .long 0])), (q1, .inl (cI, 173, .inl (fun _ => 0))), (q2, .inl (cI, 1038, .inl (fun _ => 0))), (q3, .inl (cI, 168, .inl (fun _ => 0))), (q4, .inl (cI, 2, .inl (fun _ => 0))), (q5, .inl (cI, 60, .inl (fun _ => 0))), (q6, .inl (cI, 84, .inl (fun _ => 0))), (q7, .inl (cI, 84, .inl (fun _ => 0)))]) := hD
  refine lv_aload_n hx hb dX7_init_62 rfl (lv_at hl 0 rfl) ?_
  refine lv_bipush (v := (28 : Int32)) hx hb dX7_init_63 (by decide) ?_
  refine va_newa (atype := .int) (ty := .int) (a0 := (28, .inl (fun _ => 0))) (n := (28 : Int32)) (N' := 28) hx hb (hw_ hts 4 rfl) rfl hK hP hD hS hA (fun _ => rfl) (by decide) rfl (Nat.le_of_ble_eq_true rfl) (Nat.le_of_ble_eq_true rfl) (Nat.le_of_ble_eq_true rfl) dX7_init_65 (fun q8 cA H15 hK1 hP hD hS => ?_)
  have e1 := ty_eq 0 hK1 rfl
  rw [e1] at hP hD
  clear hK1 e1
  have hP : va_P (dC, dI) vwCl ([(h0, .inr (7, [.ref q1, .int 0, .ref q2, .ref q3, .ref q4, .int 0, .ref q5, .int 0, .ref q6, .ref q7, .null, .int 0, .int 0, .int 0, .long 0])), (q1, .inl (cI, 173, .inl (fun _ => 0))), (q2, .inl (cI, 1038, .inl (fun _ => 0))), (q3, .inl (cI, 168, .inl (fun _ => 0))), (q4, .inl (cI, 2, .inl (fun _ => 0))), (q5, .inl (cI, 60, .inl (fun _ => 0))), (q6, .inl (cI, 84, .inl (fun _ => 0))), (q7, .inl (cI, 84, .inl (fun _ => 0))), (q8, .inl (cI, 28, .inl (fun _ => 0)))]) H15 := hP
  have hD : va_D A ([(h0, .inr (7, [.ref q1, .int 0, .ref q2, .ref q3, .ref q4, .int 0, .ref q5, .int 0, .ref q6, .ref q7, .null, .int 0, .int 0, .int 0, .long 0])), (q1, .inl (cI, 173, .inl (fun _ => 0))), (q2, .inl (cI, 1038, .inl (fun _ => 0))), (q3, .inl (cI, 168, .inl (fun _ => 0))), (q4, .inl (cI, 2, .inl (fun _ => 0))), (q5, .inl (cI, 60, .inl (fun _ => 0))), (q6, .inl (cI, 84, .inl (fun _ => 0))), (q7, .inl (cI, 84, .inl (fun _ => 0))), (q8, .inl (cI, 28, .inl (fun _ => 0)))]) := hD
  refine va_putF (D := (dC, dI)) (ci := 7) (v := .ref q8) (ty := tyX7 10) (C := RX7) (T := TX7) (N := 15) hx hb hts hin1 tyX7 tyX7_ok nmX7 hown hK hP hD hS 0 rfl rfl 10 (by decide) (hw_ hts 12 rfl) (fun _ h9 => h9) rfl hin rfl (tyX7_ok 10 (by decide)) rfl rfl (Nat.le_of_ble_eq_true rfl) dX7_init_67 (fun H16 locs hP hD hS => ?_)
  have hP : va_P (dC, dI) vwCl ([(h0, .inr (7, [.ref q1, .int 0, .ref q2, .ref q3, .ref q4, .int 0, .ref q5, .int 0, .ref q6, .ref q7, .ref q8, .int 0, .int 0, .int 0, .long 0])), (q1, .inl (cI, 173, .inl (fun _ => 0))), (q2, .inl (cI, 1038, .inl (fun _ => 0))), (q3, .inl (cI, 168, .inl (fun _ => 0))), (q4, .inl (cI, 2, .inl (fun _ => 0))), (q5, .inl (cI, 60, .inl (fun _ => 0))), (q6, .inl (cI, 84, .inl (fun _ => 0))), (q7, .inl (cI, 84, .inl (fun _ => 0))), (q8, .inl (cI, 28, .inl (fun _ => 0)))]) H16 := hP
  have hD : va_D A ([(h0, .inr (7, [.ref q1, .int 0, .ref q2, .ref q3, .ref q4, .int 0, .ref q5, .int 0, .ref q6, .ref q7, .ref q8, .int 0, .int 0, .int 0, .long 0])), (q1, .inl (cI, 173, .inl (fun _ => 0))), (q2, .inl (cI, 1038, .inl (fun _ => 0))), (q3, .inl (cI, 168, .inl (fun _ => 0))), (q4, .inl (cI, 2, .inl (fun _ => 0))), (q5, .inl (cI, 60, .inl (fun _ => 0))), (q6, .inl (cI, 84, .inl (fun _ => 0))), (q7, .inl (cI, 84, .inl (fun _ => 0))), (q8, .inl (cI, 28, .inl (fun _ => 0)))]) := hD
  refine lv_aload_n hx hb dX7_init_70 rfl (lv_at hl 0 rfl) ?_
  refine va_get (D := (dC, dI)) (ci := 7) (v := .ref q1) (C := RX7) (T := TX7) (N := 15) hx hb hts hin1 hown hK hP 0 rfl rfl 0 (by decide) (hw_ hts 5 rfl) (fun _ h9 => h9) rfl dX7_init_71 ?_
  refine lv_iconst (v := (0 : Int32)) hx hb dX7_init_74 (by decide) ?_
  refine lv_iconst (v := (2 : Int32)) hx hb dX7_init_75 (by decide) ?_
  refine va_iast (f := (fun _ => 0)) hx hb hK hP hD hS 1 0 rfl rfl (by unfold vp_in; decide) dX7_init_76 (fun H17 locs hP hD hS => ?_)
  have hP : va_P (dC, dI) vwCl ([(h0, .inr (7, [.ref q1, .int 0, .ref q2, .ref q3, .ref q4, .int 0, .ref q5, .int 0, .ref q6, .ref q7, .ref q8, .int 0, .int 0, .int 0, .long 0])), (q1, .inl (cI, 173, .inl (upd (fun _ => 0) (ix (0 : Int32)) (2 : Int32)))), (q2, .inl (cI, 1038, .inl (fun _ => 0))), (q3, .inl (cI, 168, .inl (fun _ => 0))), (q4, .inl (cI, 2, .inl (fun _ => 0))), (q5, .inl (cI, 60, .inl (fun _ => 0))), (q6, .inl (cI, 84, .inl (fun _ => 0))), (q7, .inl (cI, 84, .inl (fun _ => 0))), (q8, .inl (cI, 28, .inl (fun _ => 0)))]) H17 := hP
  have hD : va_D A ([(h0, .inr (7, [.ref q1, .int 0, .ref q2, .ref q3, .ref q4, .int 0, .ref q5, .int 0, .ref q6, .ref q7, .ref q8, .int 0, .int 0, .int 0, .long 0])), (q1, .inl (cI, 173, .inl (upd (fun _ => 0) (ix (0 : Int32)) (2 : Int32)))), (q2, .inl (cI, 1038, .inl (fun _ => 0))), (q3, .inl (cI, 168, .inl (fun _ => 0))), (q4, .inl (cI, 2, .inl (fun _ => 0))), (q5, .inl (cI, 60, .inl (fun _ => 0))), (q6, .inl (cI, 84, .inl (fun _ => 0))), (q7, .inl (cI, 84, .inl (fun _ => 0))), (q8, .inl (cI, 28, .inl (fun _ => 0)))]) := hD
  refine lv_aload_n hx hb dX7_init_77 rfl (lv_at hl 0 rfl) ?_
  refine va_get (D := (dC, dI)) (ci := 7) (v := .ref q1) (C := RX7) (T := TX7) (N := 15) hx hb hts hin1 hown hK hP 0 rfl rfl 0 (by decide) (hw_ hts 5 rfl) (fun _ h9 => h9) rfl dX7_init_78 ?_
  refine lv_iconst (v := (1 : Int32)) hx hb dX7_init_81 (by decide) ?_
  refine lv_iconst (v := (3 : Int32)) hx hb dX7_init_82 (by decide) ?_
  refine va_iast (f := (upd (fun _ => 0) (ix (0 : Int32)) (2 : Int32))) hx hb hK hP hD hS 1 0 rfl rfl (by unfold vp_in; decide) dX7_init_83 (fun H18 locs hP hD hS => ?_)
  have hP : va_P (dC, dI) vwCl ([(h0, .inr (7, [.ref q1, .int 0, .ref q2, .ref q3, .ref q4, .int 0, .ref q5, .int 0, .ref q6, .ref q7, .ref q8, .int 0, .int 0, .int 0, .long 0])), (q1, .inl (cI, 173, .inl (upd (upd (fun _ => 0) (ix (0 : Int32)) (2 : Int32)) (ix (1 : Int32)) (3 : Int32)))), (q2, .inl (cI, 1038, .inl (fun _ => 0))), (q3, .inl (cI, 168, .inl (fun _ => 0))), (q4, .inl (cI, 2, .inl (fun _ => 0))), (q5, .inl (cI, 60, .inl (fun _ => 0))), (q6, .inl (cI, 84, .inl (fun _ => 0))), (q7, .inl (cI, 84, .inl (fun _ => 0))), (q8, .inl (cI, 28, .inl (fun _ => 0)))]) H18 := hP
  have hD : va_D A ([(h0, .inr (7, [.ref q1, .int 0, .ref q2, .ref q3, .ref q4, .int 0, .ref q5, .int 0, .ref q6, .ref q7, .ref q8, .int 0, .int 0, .int 0, .long 0])), (q1, .inl (cI, 173, .inl (upd (upd (fun _ => 0) (ix (0 : Int32)) (2 : Int32)) (ix (1 : Int32)) (3 : Int32)))), (q2, .inl (cI, 1038, .inl (fun _ => 0))), (q3, .inl (cI, 168, .inl (fun _ => 0))), (q4, .inl (cI, 2, .inl (fun _ => 0))), (q5, .inl (cI, 60, .inl (fun _ => 0))), (q6, .inl (cI, 84, .inl (fun _ => 0))), (q7, .inl (cI, 84, .inl (fun _ => 0))), (q8, .inl (cI, 28, .inl (fun _ => 0)))]) := hD
  refine lv_aload_n hx hb dX7_init_84 rfl (lv_at hl 0 rfl) ?_
  refine va_get (D := (dC, dI)) (ci := 7) (v := .ref q1) (C := RX7) (T := TX7) (N := 15) hx hb hts hin1 hown hK hP 0 rfl rfl 0 (by decide) (hw_ hts 5 rfl) (fun _ h9 => h9) rfl dX7_init_85 ?_
  refine lv_iconst (v := (2 : Int32)) hx hb dX7_init_88 (by decide) ?_
  refine lv_sipush (v := (200 : Int32)) hx hb dX7_init_89 (by decide) ?_
  refine va_iast (f := (upd (upd (fun _ => 0) (ix (0 : Int32)) (2 : Int32)) (ix (1 : Int32)) (3 : Int32))) hx hb hK hP hD hS 1 0 rfl rfl (by unfold vp_in; decide) dX7_init_92 (fun H19 locs hP hD hS => ?_)
  have hP : va_P (dC, dI) vwCl ([(h0, .inr (7, [.ref q1, .int 0, .ref q2, .ref q3, .ref q4, .int 0, .ref q5, .int 0, .ref q6, .ref q7, .ref q8, .int 0, .int 0, .int 0, .long 0])), (q1, .inl (cI, 173, .inl (upd (upd (upd (fun _ => 0) (ix (0 : Int32)) (2 : Int32)) (ix (1 : Int32)) (3 : Int32)) (ix (2 : Int32)) (200 : Int32)))), (q2, .inl (cI, 1038, .inl (fun _ => 0))), (q3, .inl (cI, 168, .inl (fun _ => 0))), (q4, .inl (cI, 2, .inl (fun _ => 0))), (q5, .inl (cI, 60, .inl (fun _ => 0))), (q6, .inl (cI, 84, .inl (fun _ => 0))), (q7, .inl (cI, 84, .inl (fun _ => 0))), (q8, .inl (cI, 28, .inl (fun _ => 0)))]) H19 := hP
  have hD : va_D A ([(h0, .inr (7, [.ref q1, .int 0, .ref q2, .ref q3, .ref q4, .int 0, .ref q5, .int 0, .ref q6, .ref q7, .ref q8, .int 0, .int 0, .int 0, .long 0])), (q1, .inl (cI, 173, .inl (upd (upd (upd (fun _ => 0) (ix (0 : Int32)) (2 : Int32)) (ix (1 : Int32)) (3 : Int32)) (ix (2 : Int32)) (200 : Int32)))), (q2, .inl (cI, 1038, .inl (fun _ => 0))), (q3, .inl (cI, 168, .inl (fun _ => 0))), (q4, .inl (cI, 2, .inl (fun _ => 0))), (q5, .inl (cI, 60, .inl (fun _ => 0))), (q6, .inl (cI, 84, .inl (fun _ => 0))), (q7, .inl (cI, 84, .inl (fun _ => 0))), (q8, .inl (cI, 28, .inl (fun _ => 0)))]) := hD
  refine lv_iconst (v := (0 : Int32)) hx hb dX7_init_93 (by decide) ?_
  refine lv_istore_n (lv' := [(1, .int (0 : Int32)), (0, .ref h0)]) hx hb dX7_init_94 rfl hl (by decide) rfl (fun ls hl => ?_)
  obtain ⟨aM, haM⟩ : ∃ z, z = adr [h0, q1, q2, q3, q4, q5, q6, q7, q8] := ⟨_, rfl⟩
  have hP9 : va_P (dC, dI) vwCl (wMo cI aM (M7 0) 0) H19 := by rw [haM]; exact hP
  have hD9 : va_D A (wMo cI aM (M7 0) 0) := by rw [haM]; exact hD
  have h0e : h0 = aM 0 := by rw [haM]; rfl
  clear haM
  subst h0e
  have hP := hP9
  have hD := hD9
  have LOOP : ∀ (n k : Nat), k + n = 84 → ∀ (H : Heap) (locs : List Loc), va_P (dC, dI) vwCl (wMo cI aM (M7 k) 0) H → va_D A (wMo cI aM (M7 k) 0) → va_S A s.heap H locs → ∀ (ls : Array Slot), lv_has ls 2 [(1, .int (nI k)), (0, .ref (aM 0))] → W p l e (headSpec wsX7_init rm_X7_init).room s m ([.ref (aM 0)] : List Value).toArray below meth c H locs 8 1637 (MQ below (q_X7_init dC dI cI cZ cS (aM 0) A) ([.ref (aM 0)] : List Value).toArray s 8 1637 A) (F0 m 95 ls []) := by
    intro n
    induction n with
    | zero =>
      intro k hk H locs hP hD hS ls hl
      obtain rfl : k = 84 := by omega
      refine lv_iload_n hx hb dX7_init_95 rfl (lv_at hl 0 rfl) ?_
      refine lv_bipush (v := (84 : Int32)) hx hb dX7_init_96 (by decide) ?_
      refine lv_icmp_ge (tgt := 117) hx hb dX7_init_98 (by decide) (fun _ => ?_) (fun q => absurd (by decide) q)
      exact W.vret hx hb hr (fun t ht hW => ⟨⟨aM, rfl, rfl, by rw [ht]; exact hP, hD⟩, hS.F ht⟩) hS.2.2 dX7_init_117
    | succ n ih =>
      intro k hk H locs hP hD hS ls hl
      have hk8 : k < 84 := by omega
      refine lv_iload_n hx hb dX7_init_95 rfl (lv_at hl 0 rfl) ?_
      refine lv_bipush (v := (84 : Int32)) hx hb dX7_init_96 (by decide) ?_
      refine lv_icmp_ge (tgt := 117) hx hb dX7_init_98 (by decide) (fun q => absurd q (m7_lt hk8)) (fun _ => ?_)
      refine lv_aload_n hx hb dX7_init_101 rfl (lv_at hl 1 rfl) ?_
      refine va_get (D := (dC, dI)) (ci := 7) (v := .ref (aM 1)) (C := RX7) (T := TX7) (N := 15) hx hb hts hin1 hown hK hP 0 rfl rfl 0 (by decide) (hw_ hts 5 rfl) (fun _ h9 => h9) rfl dX7_init_102 ?_
      refine lv_bipush (v := (89 : Int32)) hx hb dX7_init_105 (by decide) ?_
      refine lv_iload_n hx hb dX7_init_107 rfl (lv_at hl 0 rfl) ?_
      refine lv_iadd hx hb dX7_init_108 ?_
      refine lv_iconst (v := (-1 : Int32)) hx hb dX7_init_109 (by decide) ?_
      refine va_iast (f := (M7 k 0)) hx hb hK hP hD hS 1 0 rfl rfl (m7_in hk8) dX7_init_110 (fun H locs hP hD hS => ?_)
      have hP : va_P (dC, dI) vwCl (wMo cI aM (M7 (k + 1)) 0) H := by rw [m7_up hk8] at hP; exact hP
      have hD : va_D A (wMo cI aM (M7 (k + 1)) 0) := D_addr hD rfl
      refine lv_iinc (v := nI (k + 1)) (lv' := [(1, .int (nI (k + 1))), (0, .ref (aM 0))]) hx hb dX7_init_111 hl (k := 0) rfl (m7_s hk8) (by decide) rfl (fun ls hl => ?_)
      refine lv_goto (tgt := 95) hx hb dX7_init_114 (by decide) ?_
      exact ih (k + 1) (by omega) H locs hP hD hS ls hl
  refine W.widen (k := 8) (n := 1637) (Nat.le_of_ble_eq_true rfl) (Nat.le_of_ble_eq_true rfl) ?_
  exact LOOP 84 0 (by omega) _ _ hP hD hS _ hl
