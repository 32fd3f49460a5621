/-! the constructors: what a new object's world is -/
theorem ty_eq {D : va_G} {cl : List vw_C} {tys : List (ClassId × FieldType)} {cA cB : ClassId} {ty : FieldType} {s : State} (i : Nat) (h : va_K D cl (tys ++ [(cA, ty)]) s) (hi : tys[i]? = some (cB, ty)) : cA = cB := by
  have h1 := (h.2 tys.length (cA, ty) (by rw [List.getElem?_append_right (Nat.le_refl _), Nat.sub_self]; rfl)).2
  have h2 := (h.2 i (cB, ty) (by rw [List.getElem?_append_left (List.getElem?_eq_some_iff.mp hi).1]; exact hi)).2
  cases ty with
  | object C => obtain ⟨_, _, _, _, _, e1⟩ := h1; obtain ⟨_, _, _, _, _, e2⟩ := h2; exact Option.some.inj (e1.symm.trans e2)
  | _ => exact Option.some.inj (h1.symm.trans h2)
/-- addresses in a list -/
def adr (l : List Nat) : Nat → Nat := fun k => l.getD k 0
/-- a fresh state -/
def S00 : Pic := fun k => match k with
  | 5 => fJ7_fill_53178 12 (fun _ => 0) (-1 : Int32)
  | 10 => f6_put 3 (f6_put 3 (f6_put 3 (fun _ => 0) (0 : Int32) (2 : Int32)) (1 : Int32) (3 : Int32)) (2 : Int32) (200 : Int32)
  | 11 => fJ7_fill_53178 84 (fun _ => 0) (-1 : Int32)
  | _ => fun _ => 0
/-- rows of noughts -/
def P00 : Pic := fun _ _ => 0

abbrev rm_X5_init : Room := { frames := 1, cells := 10, slots := 171, locals := 23 }
abbrev q_X5_init (dC : Nat → ClassId) (dI : Nat → Nat → Nat) (cI cZ cS : ClassId) (h0 : Nat) (A : Nat → Prop) : Array Value → State → Outcome → State → Prop := va_Qv (fun (u : Nat → Nat) => u 0 = h0) (fun u t => va_P (dC, dI) vwCl (wSt cI u S00) t.heap ∧ va_D A (wSt cI u S00)) A
set_option maxHeartbeats 4000000 in
set_option maxRecDepth 100000 in
theorem met_X5_init (l : Launch) (dC : Nat → ClassId) (dI : Nat → Nat → Nat) (cI cZ cS : ClassId) (h0 : Nat) (sz : Nat) : Met l yX5_init wsX5_init rm_X5_init (va_Pc [.ref h0] (pW (dC, dI) (tyS cI cZ cS) ([(h0, .inr (5, [.int 0, .null, .null, .null, .null, .null, .null, .int 0, .null, .null, .null, .null]))]) sz)) (q_X5_init dC dI cI cZ cS h0 (va_A ([(h0, .inr (5, [.int 0, .null, .null, .null, .null, .null, .null, .int 0, .null, .null, .null, .null]))]) sz)) 10 171 (va_A ([(h0, .inr (5, [.int 0, .null, .null, .null, .null, .null, .null, .int 0, .null, .null, .null, .null]))]) sz) := by
  refine Met.ofW (cc := cX5_init) (maxL := 1) (ret := none) (by decide) rfl ?_
  intro p e s m args below meth c s₁ B hml hv
  obtain ⟨rfl, hsz, hP, hK, hD0, hN⟩ := hv
  have hx := B.exec
  have hb := B.bytes
  have hr := B.returns
  have hts := atoms_spec (ws := wsX5_init) B.pre
  have hown : s.vm.findClass RX5 = some m.cls := findClass_of_methodNamed B.named
  have hlocks := B.notSynchronized
  have hin : meth.name = "<init>" := (name_of_methodNamed B.named B.method).1
  subst hsz
  have hD := hD0.self (sz := s.heap.size)
  generalize hAe : va_A ([(h0, .inr (5, [.int 0, .null, .null, .null, .null, .null, .null, .int 0, .null, .null, .null, .null]))]) s.heap.size = A at hD ⊢
  have hA : ∀ q : Nat, s.heap.size ≤ q → A q := fun q h => by rw [← hAe]; exact Or.inr h
  have hS : va_S A s.heap s.heap [] := va_S.rf
  have hP : va_P (dC, dI) vwCl ([(h0, .inr (5, [.int 0, .null, .null, .null, .null, .null, .null, .int 0, .null, .null, .null, .null]))]) s.heap := hP
  have hin1 : ∀ w ∈ wsX50, w ∈ wsX5_init := by decide +kernel
  have hl := lv_entry ([.ref h0]) (n := 1) (Nat.le_of_ble_eq_true rfl)
  rw [lg_entry_eq]
  generalize (lg_sl ([.ref h0]) ++ List.replicate (1 - (lg_sl ([.ref h0])).length) Slot.unset).toArray = ls at hl ⊢
  have hl : lv_has ls 1 [(0, .ref h0)] := hl
  refine lv_aload_n hx hb dX5_init_0 rfl (lv_at hl 0 rfl) ?_
  refine W.objInit hx hb hown (hw_ hts 1 rfl) (hw_ hts 2 rfl) (hw_ hts 3 rfl) rfl (by rw [hml]; exact hl.1) rfl dX5_init_1 (Nat.le_of_ble_eq_true rfl) (Nat.le_of_ble_eq_true rfl) ?_
  refine W.eq (g2 := F0 m 4 ls []) rfl ?_
  refine lv_aload_n hx hb dX5_init_4 rfl (lv_at hl 0 rfl) ?_
  refine lv_iconst (v := (0 : Int32)) hx hb dX5_init_5 (by decide) ?_
  refine va_put (D := (dC, dI)) (ci := 5) (v := .int (0 : Int32)) (ty := tyX5 0) (C := RX5) (T := TX5) (N := 12) hx hb hts hin1 tyX5 tyX5_ok nmX5 hown hK hP hD hS 0 rfl rfl 0 (by decide) (hw_ hts 4 rfl) (fun _ h9 => h9) rfl (tyX5_ok 0 (by decide)) rfl rfl (Nat.le_of_ble_eq_true rfl) dX5_init_6 (fun H1 locs hP hD hS => ?_)
  have hP : va_P (dC, dI) vwCl ([(h0, .inr (5, [.int (0 : Int32), .null, .null, .null, .null, .null, .null, .int 0, .null, .null, .null, .null]))]) H1 := hP
  have hD : va_D A ([(h0, .inr (5, [.int (0 : Int32), .null, .null, .null, .null, .null, .null, .int 0, .null, .null, .null, .null]))]) := hD
  refine lv_aload_n hx hb dX5_init_9 rfl (lv_at hl 0 rfl) ?_
  refine lv_bipush (v := (12 : Int32)) hx hb dX5_init_10 (by decide) ?_
  refine va_newa (atype := .int) (ty := .int) (a0 := (12, .inl (fun _ => 0))) (n := (12 : Int32)) (N' := 12) hx hb (hw_ hts 5 rfl) rfl hK hP hD hS hA (fun _ => rfl) (by decide) rfl (Nat.le_of_ble_eq_true rfl) (Nat.le_of_ble_eq_true rfl) (Nat.le_of_ble_eq_true rfl) dX5_init_12 (fun q1 cA H2 hK1 hP hD hS => ?_)
  have e1 := ty_eq 0 hK1 rfl
  rw [e1] at hP hD
  clear hK1 e1
  have hP : va_P (dC, dI) vwCl ([(h0, .inr (5, [.int (0 : Int32), .null, .null, .null, .null, .null, .null, .int 0, .null, .null, .null, .null])), (q1, .inl (cI, 12, .inl (fun _ => 0)))]) H2 := hP
  have hD : va_D A ([(h0, .inr (5, [.int (0 : Int32), .null, .null, .null, .null, .null, .null, .int 0, .null, .null, .null, .null])), (q1, .inl (cI, 12, .inl (fun _ => 0)))]) := hD
  refine va_putF (D := (dC, dI)) (ci := 5) (v := .ref q1) (ty := tyX5 1) (C := RX5) (T := TX5) (N := 12) hx hb hts hin1 tyX5 tyX5_ok nmX5 hown hK hP hD hS 0 rfl rfl 1 (by decide) (hw_ hts 6 rfl) (fun _ h9 => h9) rfl hin rfl (tyX5_ok 1 (by decide)) rfl rfl (Nat.le_of_ble_eq_true rfl) dX5_init_14 (fun H3 locs hP hD hS => ?_)
  have hP : va_P (dC, dI) vwCl ([(h0, .inr (5, [.int (0 : Int32), .ref q1, .null, .null, .null, .null, .null, .int 0, .null, .null, .null, .null])), (q1, .inl (cI, 12, .inl (fun _ => 0)))]) H3 := hP
  have hD : va_D A ([(h0, .inr (5, [.int (0 : Int32), .ref q1, .null, .null, .null, .null, .null, .int 0, .null, .null, .null, .null])), (q1, .inl (cI, 12, .inl (fun _ => 0)))]) := hD
  refine lv_aload_n hx hb dX5_init_17 rfl (lv_at hl 0 rfl) ?_
  refine lv_bipush (v := (12 : Int32)) hx hb dX5_init_18 (by decide) ?_
  refine va_newa (atype := .int) (ty := .int) (a0 := (12, .inl (fun _ => 0))) (n := (12 : Int32)) (N' := 12) hx hb (hw_ hts 5 rfl) rfl hK hP hD hS hA (fun _ => rfl) (by decide) rfl (Nat.le_of_ble_eq_true rfl) (Nat.le_of_ble_eq_true rfl) (Nat.le_of_ble_eq_true rfl) dX5_init_20 (fun q2 cA H4 hK1 hP hD hS => ?_)
  have e1 := ty_eq 0 hK1 rfl
  rw [e1] at hP hD
  clear hK1 e1
  have hP : va_P (dC, dI) vwCl ([(h0, .inr (5, [.int (0 : Int32), .ref q1, .null, .null, .null, .null, .null, .int 0, .null, .null, .null, .null])), (q1, .inl (cI, 12, .inl (fun _ => 0))), (q2, .inl (cI, 12, .inl (fun _ => 0)))]) H4 := hP
  have hD : va_D A ([(h0, .inr (5, [.int (0 : Int32), .ref q1, .null, .null, .null, .null, .null, .int 0, .null, .null, .null, .null])), (q1, .inl (cI, 12, .inl (fun _ => 0))), (q2, .inl (cI, 12, .inl (fun _ => 0)))]) := hD
  refine va_putF (D := (dC, dI)) (ci := 5) (v := .ref q2) (ty := tyX5 2) (C := RX5) (T := TX5) (N := 12) hx hb hts hin1 tyX5 tyX5_ok nmX5 hown hK hP hD hS 0 rfl rfl 2 (by decide) (hw_ hts 7 rfl) (fun _ h9 => h9) rfl hin rfl (tyX5_ok 2 (by decide)) rfl rfl (Nat.le_of_ble_eq_true rfl) dX5_init_22 (fun H5 locs hP hD hS => ?_)
  have hP : va_P (dC, dI) vwCl ([(h0, .inr (5, [.int (0 : Int32), .ref q1, .ref q2, .null, .null, .null, .null, .int 0, .null, .null, .null, .null])), (q1, .inl (cI, 12, .inl (fun _ => 0))), (q2, .inl (cI, 12, .inl (fun _ => 0)))]) H5 := hP
  have hD : va_D A ([(h0, .inr (5, [.int (0 : Int32), .ref q1, .ref q2, .null, .null, .null, .null, .int 0, .null, .null, .null, .null])), (q1, .inl (cI, 12, .inl (fun _ => 0))), (q2, .inl (cI, 12, .inl (fun _ => 0)))]) := hD
  refine lv_aload_n hx hb dX5_init_25 rfl (lv_at hl 0 rfl) ?_
  refine lv_bipush (v := (12 : Int32)) hx hb dX5_init_26 (by decide) ?_
  refine va_newa (atype := .int) (ty := .int) (a0 := (12, .inl (fun _ => 0))) (n := (12 : Int32)) (N' := 12) hx hb (hw_ hts 5 rfl) rfl hK hP hD hS hA (fun _ => rfl) (by decide) rfl (Nat.le_of_ble_eq_true rfl) (Nat.le_of_ble_eq_true rfl) (Nat.le_of_ble_eq_true rfl) dX5_init_28 (fun q3 cA H6 hK1 hP hD hS => ?_)
  have e1 := ty_eq 0 hK1 rfl
  rw [e1] at hP hD
  clear hK1 e1
  have hP : va_P (dC, dI) vwCl ([(h0, .inr (5, [.int (0 : Int32), .ref q1, .ref q2, .null, .null, .null, .null, .int 0, .null, .null, .null, .null])), (q1, .inl (cI, 12, .inl (fun _ => 0))), (q2, .inl (cI, 12, .inl (fun _ => 0))), (q3, .inl (cI, 12, .inl (fun _ => 0)))]) H6 := hP
  have hD : va_D A ([(h0, .inr (5, [.int (0 : Int32), .ref q1, .ref q2, .null, .null, .null, .null, .int 0, .null, .null, .null, .null])), (q1, .inl (cI, 12, .inl (fun _ => 0))), (q2, .inl (cI, 12, .inl (fun _ => 0))), (q3, .inl (cI, 12, .inl (fun _ => 0)))]) := hD
  refine va_putF (D := (dC, dI)) (ci := 5) (v := .ref q3) (ty := tyX5 3) (C := RX5) (T := TX5) (N := 12) hx hb hts hin1 tyX5 tyX5_ok nmX5 hown hK hP hD hS 0 rfl rfl 3 (by decide) (hw_ hts 8 rfl) (fun _ h9 => h9) rfl hin rfl (tyX5_ok 3 (by decide)) rfl rfl (Nat.le_of_ble_eq_true rfl) dX5_init_30 (fun H7 locs hP hD hS => ?_)
  have hP : va_P (dC, dI) vwCl ([(h0, .inr (5, [.int (0 : Int32), .ref q1, .ref q2, .ref q3, .null, .null, .null, .int 0, .null, .null, .null, .null])), (q1, .inl (cI, 12, .inl (fun _ => 0))), (q2, .inl (cI, 12, .inl (fun _ => 0))), (q3, .inl (cI, 12, .inl (fun _ => 0)))]) H7 := hP
  have hD : va_D A ([(h0, .inr (5, [.int (0 : Int32), .ref q1, .ref q2, .ref q3, .null, .null, .null, .int 0, .null, .null, .null, .null])), (q1, .inl (cI, 12, .inl (fun _ => 0))), (q2, .inl (cI, 12, .inl (fun _ => 0))), (q3, .inl (cI, 12, .inl (fun _ => 0)))]) := hD
  refine lv_aload_n hx hb dX5_init_33 rfl (lv_at hl 0 rfl) ?_
  refine lv_bipush (v := (12 : Int32)) hx hb dX5_init_34 (by decide) ?_
  refine va_newa (atype := .int) (ty := .int) (a0 := (12, .inl (fun _ => 0))) (n := (12 : Int32)) (N' := 12) hx hb (hw_ hts 5 rfl) rfl hK hP hD hS hA (fun _ => rfl) (by decide) rfl (Nat.le_of_ble_eq_true rfl) (Nat.le_of_ble_eq_true rfl) (Nat.le_of_ble_eq_true rfl) dX5_init_36 (fun q4 cA H8 hK1 hP hD hS => ?_)
  have e1 := ty_eq 0 hK1 rfl
  rw [e1] at hP hD
  clear hK1 e1
  have hP : va_P (dC, dI) vwCl ([(h0, .inr (5, [.int (0 : Int32), .ref q1, .ref q2, .ref q3, .null, .null, .null, .int 0, .null, .null, .null, .null])), (q1, .inl (cI, 12, .inl (fun _ => 0))), (q2, .inl (cI, 12, .inl (fun _ => 0))), (q3, .inl (cI, 12, .inl (fun _ => 0))), (q4, .inl (cI, 12, .inl (fun _ => 0)))]) H8 := hP
  have hD : va_D A ([(h0, .inr (5, [.int (0 : Int32), .ref q1, .ref q2, .ref q3, .null, .null, .null, .int 0, .null, .null, .null, .null])), (q1, .inl (cI, 12, .inl (fun _ => 0))), (q2, .inl (cI, 12, .inl (fun _ => 0))), (q3, .inl (cI, 12, .inl (fun _ => 0))), (q4, .inl (cI, 12, .inl (fun _ => 0)))]) := hD
  refine va_putF (D := (dC, dI)) (ci := 5) (v := .ref q4) (ty := tyX5 4) (C := RX5) (T := TX5) (N := 12) hx hb hts hin1 tyX5 tyX5_ok nmX5 hown hK hP hD hS 0 rfl rfl 4 (by decide) (hw_ hts 9 rfl) (fun _ h9 => h9) rfl hin rfl (tyX5_ok 4 (by decide)) rfl rfl (Nat.le_of_ble_eq_true rfl) dX5_init_38 (fun H9 locs hP hD hS => ?_)
  have hP : va_P (dC, dI) vwCl ([(h0, .inr (5, [.int (0 : Int32), .ref q1, .ref q2, .ref q3, .ref q4, .null, .null, .int 0, .null, .null, .null, .null])), (q1, .inl (cI, 12, .inl (fun _ => 0))), (q2, .inl (cI, 12, .inl (fun _ => 0))), (q3, .inl (cI, 12, .inl (fun _ => 0))), (q4, .inl (cI, 12, .inl (fun _ => 0)))]) H9 := hP
  have hD : va_D A ([(h0, .inr (5, [.int (0 : Int32), .ref q1, .ref q2, .ref q3, .ref q4, .null, .null, .int 0, .null, .null, .null, .null])), (q1, .inl (cI, 12, .inl (fun _ => 0))), (q2, .inl (cI, 12, .inl (fun _ => 0))), (q3, .inl (cI, 12, .inl (fun _ => 0))), (q4, .inl (cI, 12, .inl (fun _ => 0)))]) := hD
  refine lv_aload_n hx hb dX5_init_41 rfl (lv_at hl 0 rfl) ?_
  refine lv_bipush (v := (12 : Int32)) hx hb dX5_init_42 (by decide) ?_
  refine va_newa (atype := .int) (ty := .int) (a0 := (12, .inl (fun _ => 0))) (n := (12 : Int32)) (N' := 12) hx hb (hw_ hts 5 rfl) rfl hK hP hD hS hA (fun _ => rfl) (by decide) rfl (Nat.le_of_ble_eq_true rfl) (Nat.le_of_ble_eq_true rfl) (Nat.le_of_ble_eq_true rfl) dX5_init_44 (fun q5 cA H10 hK1 hP hD hS => ?_)
  have e1 := ty_eq 0 hK1 rfl
  rw [e1] at hP hD
  clear hK1 e1
  have hP : va_P (dC, dI) vwCl ([(h0, .inr (5, [.int (0 : Int32), .ref q1, .ref q2, .ref q3, .ref q4, .null, .null, .int 0, .null, .null, .null, .null])), (q1, .inl (cI, 12, .inl (fun _ => 0))), (q2, .inl (cI, 12, .inl (fun _ => 0))), (q3, .inl (cI, 12, .inl (fun _ => 0))), (q4, .inl (cI, 12, .inl (fun _ => 0))), (q5, .inl (cI, 12, .inl (fun _ => 0)))]) H10 := hP
  have hD : va_D A ([(h0, .inr (5, [.int (0 : Int32), .ref q1, .ref q2, .ref q3, .ref q4, .null, .null, .int 0, .null, .null, .null, .null])), (q1, .inl (cI, 12, .inl (fun _ => 0))), (q2, .inl (cI, 12, .inl (fun _ => 0))), (q3, .inl (cI, 12, .inl (fun _ => 0))), (q4, .inl (cI, 12, .inl (fun _ => 0))), (q5, .inl (cI, 12, .inl (fun _ => 0)))]) := hD
  refine va_putF (D := (dC, dI)) (ci := 5) (v := .ref q5) (ty := tyX5 5) (C := RX5) (T := TX5) (N := 12) hx hb hts hin1 tyX5 tyX5_ok nmX5 hown hK hP hD hS 0 rfl rfl 5 (by decide) (hw_ hts 10 rfl) (fun _ h9 => h9) rfl hin rfl (tyX5_ok 5 (by decide)) rfl rfl (Nat.le_of_ble_eq_true rfl) dX5_init_46 (fun H11 locs hP hD hS => ?_)
  have hP : va_P (dC, dI) vwCl ([(h0, .inr (5, [.int (0 : Int32), .ref q1, .ref q2, .ref q3, .ref q4, .ref q5, .null, .int 0, .null, .null, .null, .null])), (q1, .inl (cI, 12, .inl (fun _ => 0))), (q2, .inl (cI, 12, .inl (fun _ => 0))), (q3, .inl (cI, 12, .inl (fun _ => 0))), (q4, .inl (cI, 12, .inl (fun _ => 0))), (q5, .inl (cI, 12, .inl (fun _ => 0)))]) H11 := hP
  have hD : va_D A ([(h0, .inr (5, [.int (0 : Int32), .ref q1, .ref q2, .ref q3, .ref q4, .ref q5, .null, .int 0, .null, .null, .null, .null])), (q1, .inl (cI, 12, .inl (fun _ => 0))), (q2, .inl (cI, 12, .inl (fun _ => 0))), (q3, .inl (cI, 12, .inl (fun _ => 0))), (q4, .inl (cI, 12, .inl (fun _ => 0))), (q5, .inl (cI, 12, .inl (fun _ => 0)))]) := hD
  refine lv_aload_n hx hb dX5_init_49 rfl (lv_at hl 0 rfl) ?_
  refine lv_bipush (v := (12 : Int32)) hx hb dX5_init_50 (by decide) ?_
  refine va_newa (atype := .int) (ty := .int) (a0 := (12, .inl (fun _ => 0))) (n := (12 : Int32)) (N' := 12) hx hb (hw_ hts 5 rfl) rfl hK hP hD hS hA (fun _ => rfl) (by decide) rfl (Nat.le_of_ble_eq_true rfl) (Nat.le_of_ble_eq_true rfl) (Nat.le_of_ble_eq_true rfl) dX5_init_52 (fun q6 cA H12 hK1 hP hD hS => ?_)
  have e1 := ty_eq 0 hK1 rfl
  rw [e1] at hP hD
  clear hK1 e1
  have hP : va_P (dC, dI) vwCl ([(h0, .inr (5, [.int (0 : Int32), .ref q1, .ref q2, .ref q3, .ref q4, .ref q5, .null, .int 0, .null, .null, .null, .null])), (q1, .inl (cI, 12, .inl (fun _ => 0))), (q2, .inl (cI, 12, .inl (fun _ => 0))), (q3, .inl (cI, 12, .inl (fun _ => 0))), (q4, .inl (cI, 12, .inl (fun _ => 0))), (q5, .inl (cI, 12, .inl (fun _ => 0))), (q6, .inl (cI, 12, .inl (fun _ => 0)))]) H12 := hP
  have hD : va_D A ([(h0, .inr (5, [.int (0 : Int32), .ref q1, .ref q2, .ref q3, .ref q4, .ref q5, .null, .int 0, .null, .null, .null, .null])), (q1, .inl (cI, 12, .inl (fun _ => 0))), (q2, .inl (cI, 12, .inl (fun _ => 0))), (q3, .inl (cI, 12, .inl (fun _ => 0))), (q4, .inl (cI, 12, .inl (fun _ => 0))), (q5, .inl (cI, 12, .inl (fun _ => 0))), (q6, .inl (cI, 12, .inl (fun _ => 0)))]) := hD
  refine va_putF (D := (dC, dI)) (ci := 5) (v := .ref q6) (ty := tyX5 6) (C := RX5) (T := TX5) (N := 12) hx hb hts hin1 tyX5 tyX5_ok nmX5 hown hK hP hD hS 0 rfl rfl 6 (by decide) (hw_ hts 11 rfl) (fun _ h9 => h9) rfl hin rfl (tyX5_ok 6 (by decide)) rfl rfl (Nat.le_of_ble_eq_true rfl) dX5_init_54 (fun H13 locs hP hD hS => ?_)
  have hP : va_P (dC, dI) vwCl ([(h0, .inr (5, [.int (0 : Int32), .ref q1, .ref q2, .ref q3, .ref q4, .ref q5, .ref q6, .int 0, .null, .null, .null, .null])), (q1, .inl (cI, 12, .inl (fun _ => 0))), (q2, .inl (cI, 12, .inl (fun _ => 0))), (q3, .inl (cI, 12, .inl (fun _ => 0))), (q4, .inl (cI, 12, .inl (fun _ => 0))), (q5, .inl (cI, 12, .inl (fun _ => 0))), (q6, .inl (cI, 12, .inl (fun _ => 0)))]) H13 := hP
  have hD : va_D A ([(h0, .inr (5, [.int (0 : Int32), .ref q1, .ref q2, .ref q3, .ref q4, .ref q5, .ref q6, .int 0, .null, .null, .null, .null])), (q1, .inl (cI, 12, .inl (fun _ => 0))), (q2, .inl (cI, 12, .inl (fun _ => 0))), (q3, .inl (cI, 12, .inl (fun _ => 0))), (q4, .inl (cI, 12, .inl (fun _ => 0))), (q5, .inl (cI, 12, .inl (fun _ => 0))), (q6, .inl (cI, 12, .inl (fun _ => 0)))]) := hD
  refine lv_aload_n hx hb dX5_init_57 rfl (lv_at hl 0 rfl) ?_
  refine lv_iconst (v := (0 : Int32)) hx hb dX5_init_58 (by decide) ?_
  refine va_put (D := (dC, dI)) (ci := 5) (v := .int (0 : Int32)) (ty := tyX5 7) (C := RX5) (T := TX5) (N := 12) hx hb hts hin1 tyX5 tyX5_ok nmX5 hown hK hP hD hS 0 rfl rfl 7 (by decide) (hw_ hts 12 rfl) (fun _ h9 => h9) rfl (tyX5_ok 7 (by decide)) rfl rfl (Nat.le_of_ble_eq_true rfl) dX5_init_59 (fun H14 locs hP hD hS => ?_)
  have hP : va_P (dC, dI) vwCl ([(h0, .inr (5, [.int (0 : Int32), .ref q1, .ref q2, .ref q3, .ref q4, .ref q5, .ref q6, .int (0 : Int32), .null, .null, .null, .null])), (q1, .inl (cI, 12, .inl (fun _ => 0))), (q2, .inl (cI, 12, .inl (fun _ => 0))), (q3, .inl (cI, 12, .inl (fun _ => 0))), (q4, .inl (cI, 12, .inl (fun _ => 0))), (q5, .inl (cI, 12, .inl (fun _ => 0))), (q6, .inl (cI, 12, .inl (fun _ => 0)))]) H14 := hP
  have hD : va_D A ([(h0, .inr (5, [.int (0 : Int32), .ref q1, .ref q2, .ref q3, .ref q4, .ref q5, .ref q6, .int (0 : Int32), .null, .null, .null, .null])), (q1, .inl (cI, 12, .inl (fun _ => 0))), (q2, .inl (cI, 12, .inl (fun _ => 0))), (q3, .inl (cI, 12, .inl (fun _ => 0))), (q4, .inl (cI, 12, .inl (fun _ => 0))), (q5, .inl (cI, 12, .inl (fun _ => 0))), (q6, .inl (cI, 12, .inl (fun _ => 0)))]) := hD
  refine lv_aload_n hx hb dX5_init_62 rfl (lv_at hl 0 rfl) ?_
  refine lv_bipush (v := (6 : Int32)) hx hb dX5_init_63 (by decide) ?_
  refine va_newa (atype := .int) (ty := .int) (a0 := (6, .inl (fun _ => 0))) (n := (6 : Int32)) (N' := 6) hx hb (hw_ hts 5 rfl) rfl hK hP hD hS hA (fun _ => rfl) (by decide) rfl (Nat.le_of_ble_eq_true rfl) (Nat.le_of_ble_eq_true rfl) (Nat.le_of_ble_eq_true rfl) dX5_init_65 (fun q7 cA H15 hK1 hP hD hS => ?_)
  have e1 := ty_eq 0 hK1 rfl
  rw [e1] at hP hD
  clear hK1 e1
  have hP : va_P (dC, dI) vwCl ([(h0, .inr (5, [.int (0 : Int32), .ref q1, .ref q2, .ref q3, .ref q4, .ref q5, .ref q6, .int (0 : Int32), .null, .null, .null, .null])), (q1, .inl (cI, 12, .inl (fun _ => 0))), (q2, .inl (cI, 12, .inl (fun _ => 0))), (q3, .inl (cI, 12, .inl (fun _ => 0))), (q4, .inl (cI, 12, .inl (fun _ => 0))), (q5, .inl (cI, 12, .inl (fun _ => 0))), (q6, .inl (cI, 12, .inl (fun _ => 0))), (q7, .inl (cI, 6, .inl (fun _ => 0)))]) H15 := hP
  have hD : va_D A ([(h0, .inr (5, [.int (0 : Int32), .ref q1, .ref q2, .ref q3, .ref q4, .ref q5, .ref q6, .int (0 : Int32), .null, .null, .null, .null])), (q1, .inl (cI, 12, .inl (fun _ => 0))), (q2, .inl (cI, 12, .inl (fun _ => 0))), (q3, .inl (cI, 12, .inl (fun _ => 0))), (q4, .inl (cI, 12, .inl (fun _ => 0))), (q5, .inl (cI, 12, .inl (fun _ => 0))), (q6, .inl (cI, 12, .inl (fun _ => 0))), (q7, .inl (cI, 6, .inl (fun _ => 0)))]) := hD
  refine va_putF (D := (dC, dI)) (ci := 5) (v := .ref q7) (ty := tyX5 8) (C := RX5) (T := TX5) (N := 12) hx hb hts hin1 tyX5 tyX5_ok nmX5 hown hK hP hD hS 0 rfl rfl 8 (by decide) (hw_ hts 13 rfl) (fun _ h9 => h9) rfl hin rfl (tyX5_ok 8 (by decide)) rfl rfl (Nat.le_of_ble_eq_true rfl) dX5_init_67 (fun H16 locs hP hD hS => ?_)
  have hP : va_P (dC, dI) vwCl ([(h0, .inr (5, [.int (0 : Int32), .ref q1, .ref q2, .ref q3, .ref q4, .ref q5, .ref q6, .int (0 : Int32), .ref q7, .null, .null, .null])), (q1, .inl (cI, 12, .inl (fun _ => 0))), (q2, .inl (cI, 12, .inl (fun _ => 0))), (q3, .inl (cI, 12, .inl (fun _ => 0))), (q4, .inl (cI, 12, .inl (fun _ => 0))), (q5, .inl (cI, 12, .inl (fun _ => 0))), (q6, .inl (cI, 12, .inl (fun _ => 0))), (q7, .inl (cI, 6, .inl (fun _ => 0)))]) H16 := hP
  have hD : va_D A ([(h0, .inr (5, [.int (0 : Int32), .ref q1, .ref q2, .ref q3, .ref q4, .ref q5, .ref q6, .int (0 : Int32), .ref q7, .null, .null, .null])), (q1, .inl (cI, 12, .inl (fun _ => 0))), (q2, .inl (cI, 12, .inl (fun _ => 0))), (q3, .inl (cI, 12, .inl (fun _ => 0))), (q4, .inl (cI, 12, .inl (fun _ => 0))), (q5, .inl (cI, 12, .inl (fun _ => 0))), (q6, .inl (cI, 12, .inl (fun _ => 0))), (q7, .inl (cI, 6, .inl (fun _ => 0)))]) := hD
  refine lv_aload_n hx hb dX5_init_70 rfl (lv_at hl 0 rfl) ?_
  refine lv_bipush (v := (6 : Int32)) hx hb dX5_init_71 (by decide) ?_
  refine va_newa (atype := .int) (ty := .int) (a0 := (6, .inl (fun _ => 0))) (n := (6 : Int32)) (N' := 6) hx hb (hw_ hts 5 rfl) rfl hK hP hD hS hA (fun _ => rfl) (by decide) rfl (Nat.le_of_ble_eq_true rfl) (Nat.le_of_ble_eq_true rfl) (Nat.le_of_ble_eq_true rfl) dX5_init_73 (fun q8 cA H17 hK1 hP hD hS => ?_)
  have e1 := ty_eq 0 hK1 rfl
  rw [e1] at hP hD
  clear hK1 e1
  have hP : va_P (dC, dI) vwCl ([(h0, .inr (5, [.int (0 : Int32), .ref q1, .ref q2, .ref q3, .ref q4, .ref q5, .ref q6, .int (0 : Int32), .ref q7, .null, .null, .null])), (q1, .inl (cI, 12, .inl (fun _ => 0))), (q2, .inl (cI, 12, .inl (fun _ => 0))), (q3, .inl (cI, 12, .inl (fun _ => 0))), (q4, .inl (cI, 12, .inl (fun _ => 0))), (q5, .inl (cI, 12, .inl (fun _ => 0))), (q6, .inl (cI, 12, .inl (fun _ => 0))), (q7, .inl (cI, 6, .inl (fun _ => 0))), (q8, .inl (cI, 6, .inl (fun _ => 0)))]) H17 := hP
  have hD : va_D A ([(h0, .inr (5, [.int (0 : Int32), .ref q1, .ref q2, .ref q3, .ref q4, .ref q5, .ref q6, .int (0 : Int32), .ref q7, .null, .null, .null])), (q1, .inl (cI, 12, .inl (fun _ => 0))), (q2, .inl (cI, 12, .inl (fun _ => 0))), (q3, .inl (cI, 12, .inl (fun _ => 0))), (q4, .inl (cI, 12, .inl (fun _ => 0))), (q5, .inl (cI, 12, .inl (fun _ => 0))), (q6, .inl (cI, 12, .inl (fun _ => 0))), (q7, .inl (cI, 6, .inl (fun _ => 0))), (q8, .inl (cI, 6, .inl (fun _ => 0)))]) := hD
  refine va_putF (D := (dC, dI)) (ci := 5) (v := .ref q8) (ty := tyX5 9) (C := RX5) (T := TX5) (N := 12) hx hb hts hin1 tyX5 tyX5_ok nmX5 hown hK hP hD hS 0 rfl rfl 9 (by decide) (hw_ hts 14 rfl) (fun _ h9 => h9) rfl hin rfl (tyX5_ok 9 (by decide)) rfl rfl (Nat.le_of_ble_eq_true rfl) dX5_init_75 (fun H18 locs hP hD hS => ?_)
  have hP : va_P (dC, dI) vwCl ([(h0, .inr (5, [.int (0 : Int32), .ref q1, .ref q2, .ref q3, .ref q4, .ref q5, .ref q6, .int (0 : Int32), .ref q7, .ref q8, .null, .null])), (q1, .inl (cI, 12, .inl (fun _ => 0))), (q2, .inl (cI, 12, .inl (fun _ => 0))), (q3, .inl (cI, 12, .inl (fun _ => 0))), (q4, .inl (cI, 12, .inl (fun _ => 0))), (q5, .inl (cI, 12, .inl (fun _ => 0))), (q6, .inl (cI, 12, .inl (fun _ => 0))), (q7, .inl (cI, 6, .inl (fun _ => 0))), (q8, .inl (cI, 6, .inl (fun _ => 0)))]) H18 := hP
  have hD : va_D A ([(h0, .inr (5, [.int (0 : Int32), .ref q1, .ref q2, .ref q3, .ref q4, .ref q5, .ref q6, .int (0 : Int32), .ref q7, .ref q8, .null, .null])), (q1, .inl (cI, 12, .inl (fun _ => 0))), (q2, .inl (cI, 12, .inl (fun _ => 0))), (q3, .inl (cI, 12, .inl (fun _ => 0))), (q4, .inl (cI, 12, .inl (fun _ => 0))), (q5, .inl (cI, 12, .inl (fun _ => 0))), (q6, .inl (cI, 12, .inl (fun _ => 0))), (q7, .inl (cI, 6, .inl (fun _ => 0))), (q8, .inl (cI, 6, .inl (fun _ => 0)))]) := hD
  refine lv_aload_n hx hb dX5_init_78 rfl (lv_at hl 0 rfl) ?_
  refine lv_iconst (v := (3 : Int32)) hx hb dX5_init_79 (by decide) ?_
  refine va_newa (atype := .int) (ty := .int) (a0 := (3, .inl (fun _ => 0))) (n := (3 : Int32)) (N' := 3) hx hb (hw_ hts 5 rfl) rfl hK hP hD hS hA (fun _ => rfl) (by decide) rfl (Nat.le_of_ble_eq_true rfl) (Nat.le_of_ble_eq_true rfl) (Nat.le_of_ble_eq_true rfl) dX5_init_80 (fun q9 cA H19 hK1 hP hD hS => ?_)
  have e1 := ty_eq 0 hK1 rfl
  rw [e1] at hP hD
  clear hK1 e1
  have hP : va_P (dC, dI) vwCl ([(h0, .inr (5, [.int (0 : Int32), .ref q1, .ref q2, .ref q3, .ref q4, .ref q5, .ref q6, .int (0 : Int32), .ref q7, .ref q8, .null, .null])), (q1, .inl (cI, 12, .inl (fun _ => 0))), (q2, .inl (cI, 12, .inl (fun _ => 0))), (q3, .inl (cI, 12, .inl (fun _ => 0))), (q4, .inl (cI, 12, .inl (fun _ => 0))), (q5, .inl (cI, 12, .inl (fun _ => 0))), (q6, .inl (cI, 12, .inl (fun _ => 0))), (q7, .inl (cI, 6, .inl (fun _ => 0))), (q8, .inl (cI, 6, .inl (fun _ => 0))), (q9, .inl (cI, 3, .inl (fun _ => 0)))]) H19 := hP
  have hD : va_D A ([(h0, .inr (5, [.int (0 : Int32), .ref q1, .ref q2, .ref q3, .ref q4, .ref q5, .ref q6, .int (0 : Int32), .ref q7, .ref q8, .null, .null])), (q1, .inl (cI, 12, .inl (fun _ => 0))), (q2, .inl (cI, 12, .inl (fun _ => 0))), (q3, .inl (cI, 12, .inl (fun _ => 0))), (q4, .inl (cI, 12, .inl (fun _ => 0))), (q5, .inl (cI, 12, .inl (fun _ => 0))), (q6, .inl (cI, 12, .inl (fun _ => 0))), (q7, .inl (cI, 6, .inl (fun _ => 0))), (q8, .inl (cI, 6, .inl (fun _ => 0))), (q9, .inl (cI, 3, .inl (fun _ => 0)))]) := hD
  refine va_putF (D := (dC, dI)) (ci := 5) (v := .ref q9) (ty := tyX5 10) (C := RX5) (T := TX5) (N := 12) hx hb hts hin1 tyX5 tyX5_ok nmX5 hown hK hP hD hS 0 rfl rfl 10 (by decide) (hw_ hts 15 rfl) (fun _ h9 => h9) rfl hin rfl (tyX5_ok 10 (by decide)) rfl rfl (Nat.le_of_ble_eq_true rfl) dX5_init_82 (fun H20 locs hP hD hS => ?_)
  have hP : va_P (dC, dI) vwCl ([(h0, .inr (5, [.int (0 : Int32), .ref q1, .ref q2, .ref q3, .ref q4, .ref q5, .ref q6, .int (0 : Int32), .ref q7, .ref q8, .ref q9, .null])), (q1, .inl (cI, 12, .inl (fun _ => 0))), (q2, .inl (cI, 12, .inl (fun _ => 0))), (q3, .inl (cI, 12, .inl (fun _ => 0))), (q4, .inl (cI, 12, .inl (fun _ => 0))), (q5, .inl (cI, 12, .inl (fun _ => 0))), (q6, .inl (cI, 12, .inl (fun _ => 0))), (q7, .inl (cI, 6, .inl (fun _ => 0))), (q8, .inl (cI, 6, .inl (fun _ => 0))), (q9, .inl (cI, 3, .inl (fun _ => 0)))]) H20 := hP
  have hD : va_D A ([(h0, .inr (5, [.int (0 : Int32), .ref q1, .ref q2, .ref q3, .ref q4, .ref q5, .ref q6, .int (0 : Int32), .ref q7, .ref q8, .ref q9, .null])), (q1, .inl (cI, 12, .inl (fun _ => 0))), (q2, .inl (cI, 12, .inl (fun _ => 0))), (q3, .inl (cI, 12, .inl (fun _ => 0))), (q4, .inl (cI, 12, .inl (fun _ => 0))), (q5, .inl (cI, 12, .inl (fun _ => 0))), (q6, .inl (cI, 12, .inl (fun _ => 0))), (q7, .inl (cI, 6, .inl (fun _ => 0))), (q8, .inl (cI, 6, .inl (fun _ => 0))), (q9, .inl (cI, 3, .inl (fun _ => 0)))]) := hD
  refine lv_aload_n hx hb dX5_init_85 rfl (lv_at hl 0 rfl) ?_
  refine lv_bipush (v := (84 : Int32)) hx hb dX5_init_86 (by decide) ?_
  refine va_newa (atype := .int) (ty := .int) (a0 := (84, .inl (fun _ => 0))) (n := (84 : Int32)) (N' := 84) hx hb (hw_ hts 5 rfl) rfl hK hP hD hS hA (fun _ => rfl) (by decide) rfl (Nat.le_of_ble_eq_true rfl) (Nat.le_of_ble_eq_true rfl) (Nat.le_of_ble_eq_true rfl) dX5_init_88 (fun q10 cA H21 hK1 hP hD hS => ?_)
  have e1 := ty_eq 0 hK1 rfl
  rw [e1] at hP hD
  clear hK1 e1
  have hP : va_P (dC, dI) vwCl ([(h0, .inr (5, [.int (0 : Int32), .ref q1, .ref q2, .ref q3, .ref q4, .ref q5, .ref q6, .int (0 : Int32), .ref q7, .ref q8, .ref q9, .null])), (q1, .inl (cI, 12, .inl (fun _ => 0))), (q2, .inl (cI, 12, .inl (fun _ => 0))), (q3, .inl (cI, 12, .inl (fun _ => 0))), (q4, .inl (cI, 12, .inl (fun _ => 0))), (q5, .inl (cI, 12, .inl (fun _ => 0))), (q6, .inl (cI, 12, .inl (fun _ => 0))), (q7, .inl (cI, 6, .inl (fun _ => 0))), (q8, .inl (cI, 6, .inl (fun _ => 0))), (q9, .inl (cI, 3, .inl (fun _ => 0))), (q10, .inl (cI, 84, .inl (fun _ => 0)))]) H21 := hP
  have hD : va_D A ([(h0, .inr (5, [.int (0 : Int32), .ref q1, .ref q2, .ref q3, .ref q4, .ref q5, .ref q6, .int (0 : Int32), .ref q7, .ref q8, .ref q9, .null])), (q1, .inl (cI, 12, .inl (fun _ => 0))), (q2, .inl (cI, 12, .inl (fun _ => 0))), (q3, .inl (cI, 12, .inl (fun _ => 0))), (q4, .inl (cI, 12, .inl (fun _ => 0))), (q5, .inl (cI, 12, .inl (fun _ => 0))), (q6, .inl (cI, 12, .inl (fun _ => 0))), (q7, .inl (cI, 6, .inl (fun _ => 0))), (q8, .inl (cI, 6, .inl (fun _ => 0))), (q9, .inl (cI, 3, .inl (fun _ => 0))), (q10, .inl (cI, 84, .inl (fun _ => 0)))]) := hD
  refine va_putF (D := (dC, dI)) (ci := 5) (v := .ref q10) (ty := tyX5 11) (C := RX5) (T := TX5) (N := 12) hx hb hts hin1 tyX5 tyX5_ok nmX5 hown hK hP hD hS 0 rfl rfl 11 (by decide) (hw_ hts 16 rfl) (fun _ h9 => h9) rfl hin rfl (tyX5_ok 11 (by decide)) rfl rfl (Nat.le_of_ble_eq_true rfl) dX5_init_90 (fun H22 locs hP hD hS => ?_)
  have hP : va_P (dC, dI) vwCl ([(h0, .inr (5, [.int (0 : Int32), .ref q1, .ref q2, .ref q3, .ref q4, .ref q5, .ref q6, .int (0 : Int32), .ref q7, .ref q8, .ref q9, .ref q10])), (q1, .inl (cI, 12, .inl (fun _ => 0))), (q2, .inl (cI, 12, .inl (fun _ => 0))), (q3, .inl (cI, 12, .inl (fun _ => 0))), (q4, .inl (cI, 12, .inl (fun _ => 0))), (q5, .inl (cI, 12, .inl (fun _ => 0))), (q6, .inl (cI, 12, .inl (fun _ => 0))), (q7, .inl (cI, 6, .inl (fun _ => 0))), (q8, .inl (cI, 6, .inl (fun _ => 0))), (q9, .inl (cI, 3, .inl (fun _ => 0))), (q10, .inl (cI, 84, .inl (fun _ => 0)))]) H22 := hP
  have hD : va_D A ([(h0, .inr (5, [.int (0 : Int32), .ref q1, .ref q2, .ref q3, .ref q4, .ref q5, .ref q6, .int (0 : Int32), .ref q7, .ref q8, .ref q9, .ref q10])), (q1, .inl (cI, 12, .inl (fun _ => 0))), (q2, .inl (cI, 12, .inl (fun _ => 0))), (q3, .inl (cI, 12, .inl (fun _ => 0))), (q4, .inl (cI, 12, .inl (fun _ => 0))), (q5, .inl (cI, 12, .inl (fun _ => 0))), (q6, .inl (cI, 12, .inl (fun _ => 0))), (q7, .inl (cI, 6, .inl (fun _ => 0))), (q8, .inl (cI, 6, .inl (fun _ => 0))), (q9, .inl (cI, 3, .inl (fun _ => 0))), (q10, .inl (cI, 84, .inl (fun _ => 0)))]) := hD
  refine lv_aload_n hx hb dX5_init_93 rfl (lv_at hl 0 rfl) ?_
  refine va_get (D := (dC, dI)) (ci := 5) (v := .ref q5) (C := RX5) (T := TX5) (N := 12) hx hb hts hin1 hown hK hP 0 rfl rfl 5 (by decide) (hw_ hts 10 rfl) (fun _ h9 => h9) rfl dX5_init_94 ?_
  refine lv_iconst (v := (-1 : Int32)) hx hb dX5_init_97 (by decide) ?_
  have hF := va_free (wc := [(q5, .inl (cI, 12, .inl (fun _ => 0)))]) hD hS hA [5] rfl
  refine va_callv (va_runS (As := [.ref q5, .int (-1 : Int32)]) (rest := []) ⟨hx, hb, hml, hown, hts⟩ (met_J7_fill_53178 l dC dI cI cZ cS q5 12 (by decide) (fun _ => 0) H22.size (-1 : Int32)) (va_cwS 2 hts gX5_init_J7_fill_53178 rfl rfl rfl (by decide +kernel) ⟨(Nat.le_of_ble_eq_true rfl), (Nat.le_of_ble_eq_true rfl)⟩) (pS (wc := [(q5, .inl (cI, 12, .inl (fun _ => 0)))]) hK hP hD hN [5] rfl (by decide)) rfl rfl hl.1 rfl (lv_room (Nat.le_of_ble_eq_true rfl)) dX5_init_98 ⟨(Nat.le_of_ble_eq_true rfl), (Nat.le_of_ble_eq_true rfl)⟩) hS (fun q _ h => hF q h) hF (fun u t H23 locs ht hvm hw hB hz1 hk1 hS => ?_)
  try dsimp only at hw hB
  rw [ht] at hB
  subst hw
  have hP := wrk (w2 := [(h0, .inr (5, [.int (0 : Int32), .ref q1, .ref q2, .ref q3, .ref q4, .ref q5, .ref q6, .int (0 : Int32), .ref q7, .ref q8, .ref q9, .ref q10])), (q1, .inl (cI, 12, .inl (fun _ => 0))), (q2, .inl (cI, 12, .inl (fun _ => 0))), (q3, .inl (cI, 12, .inl (fun _ => 0))), (q4, .inl (cI, 12, .inl (fun _ => 0))), (q5, .inl (cI, 12, .inl (fJ7_fill_53178 12 (fun _ => 0) (-1 : Int32)))), (q6, .inl (cI, 12, .inl (fun _ => 0))), (q7, .inl (cI, 6, .inl (fun _ => 0))), (q8, .inl (cI, 6, .inl (fun _ => 0))), (q9, .inl (cI, 3, .inl (fun _ => 0))), (q10, .inl (cI, 84, .inl (fun _ => 0)))]) hP hD [5] rfl (by decide) hk1 hB rfl rfl
  have hD := D_addr (w1 := [(h0, .inr (5, [.int (0 : Int32), .ref q1, .ref q2, .ref q3, .ref q4, .ref q5, .ref q6, .int (0 : Int32), .ref q7, .ref q8, .ref q9, .ref q10])), (q1, .inl (cI, 12, .inl (fun _ => 0))), (q2, .inl (cI, 12, .inl (fun _ => 0))), (q3, .inl (cI, 12, .inl (fun _ => 0))), (q4, .inl (cI, 12, .inl (fun _ => 0))), (q5, .inl (cI, 12, .inl (fJ7_fill_53178 12 (fun _ => 0) (-1 : Int32)))), (q6, .inl (cI, 12, .inl (fun _ => 0))), (q7, .inl (cI, 6, .inl (fun _ => 0))), (q8, .inl (cI, 6, .inl (fun _ => 0))), (q9, .inl (cI, 3, .inl (fun _ => 0))), (q10, .inl (cI, 84, .inl (fun _ => 0)))]) hD rfl
  refine lv_aload_n hx hb dX5_init_101 rfl (lv_at hl 0 rfl) ?_
  refine va_get (D := (dC, dI)) (ci := 5) (v := .ref q10) (C := RX5) (T := TX5) (N := 12) hx hb hts hin1 hown hK hP 0 rfl rfl 11 (by decide) (hw_ hts 16 rfl) (fun _ h9 => h9) rfl dX5_init_102 ?_
  refine lv_iconst (v := (-1 : Int32)) hx hb dX5_init_105 (by decide) ?_
  have hF := va_free (wc := [(q10, .inl (cI, 84, .inl (fun _ => 0)))]) hD hS hA [10] rfl
  refine va_callv (va_runS (As := [.ref q10, .int (-1 : Int32)]) (rest := []) ⟨hx, hb, hml, hown, hts⟩ (met_J7_fill_53178 l dC dI cI cZ cS q10 84 (by decide) (fun _ => 0) H23.size (-1 : Int32)) (va_cwS 2 hts gX5_init_J7_fill_53178 rfl rfl rfl (by decide +kernel) ⟨(Nat.le_of_ble_eq_true rfl), (Nat.le_of_ble_eq_true rfl)⟩) (pS (wc := [(q10, .inl (cI, 84, .inl (fun _ => 0)))]) hK hP hD hN [10] rfl (by decide)) rfl rfl hl.1 rfl (lv_room (Nat.le_of_ble_eq_true rfl)) dX5_init_106 ⟨(Nat.le_of_ble_eq_true rfl), (Nat.le_of_ble_eq_true rfl)⟩) hS (fun q _ h => hF q h) hF (fun u t H24 locs ht hvm hw hB hz1 hk1 hS => ?_)
  try dsimp only at hw hB
  rw [ht] at hB
  subst hw
  have hP := wrk (w2 := [(h0, .inr (5, [.int (0 : Int32), .ref q1, .ref q2, .ref q3, .ref q4, .ref q5, .ref q6, .int (0 : Int32), .ref q7, .ref q8, .ref q9, .ref q10])), (q1, .inl (cI, 12, .inl (fun _ => 0))), (q2, .inl (cI, 12, .inl (fun _ => 0))), (q3, .inl (cI, 12, .inl (fun _ => 0))), (q4, .inl (cI, 12, .inl (fun _ => 0))), (q5, .inl (cI, 12, .inl (fJ7_fill_53178 12 (fun _ => 0) (-1 : Int32)))), (q6, .inl (cI, 12, .inl (fun _ => 0))), (q7, .inl (cI, 6, .inl (fun _ => 0))), (q8, .inl (cI, 6, .inl (fun _ => 0))), (q9, .inl (cI, 3, .inl (fun _ => 0))), (q10, .inl (cI, 84, .inl (fJ7_fill_53178 84 (fun _ => 0) (-1 : Int32))))]) hP hD [10] rfl (by decide) hk1 hB rfl rfl
  have hD := D_addr (w1 := [(h0, .inr (5, [.int (0 : Int32), .ref q1, .ref q2, .ref q3, .ref q4, .ref q5, .ref q6, .int (0 : Int32), .ref q7, .ref q8, .ref q9, .ref q10])), (q1, .inl (cI, 12, .inl (fun _ => 0))), (q2, .inl (cI, 12, .inl (fun _ => 0))), (q3, .inl (cI, 12, .inl (fun _ => 0))), (q4, .inl (cI, 12, .inl (fun _ => 0))), (q5, .inl (cI, 12, .inl (fJ7_fill_53178 12 (fun _ => 0) (-1 : Int32)))), (q6, .inl (cI, 12, .inl (fun _ => 0))), (q7, .inl (cI, 6, .inl (fun _ => 0))), (q8, .inl (cI, 6, .inl (fun _ => 0))), (q9, .inl (cI, 3, .inl (fun _ => 0))), (q10, .inl (cI, 84, .inl (fJ7_fill_53178 84 (fun _ => 0) (-1 : Int32))))]) hD rfl
  refine lv_aload_n hx hb dX5_init_109 rfl (lv_at hl 0 rfl) ?_
  refine va_get (D := (dC, dI)) (ci := 5) (v := .ref q9) (C := RX5) (T := TX5) (N := 12) hx hb hts hin1 hown hK hP 0 rfl rfl 10 (by decide) (hw_ hts 15 rfl) (fun _ h9 => h9) rfl dX5_init_110 ?_
  refine lv_iconst (v := (0 : Int32)) hx hb dX5_init_113 (by decide) ?_
  refine lv_iconst (v := (2 : Int32)) hx hb dX5_init_114 (by decide) ?_
  have hF := va_free (wc := [(q9, .inl (cI, 3, .inl (fun _ => 0)))]) hD hS hA [9] rfl
  refine va_callv (va_runSN (As := [.ref q9, .int (0 : Int32), .int (2 : Int32)]) (rest := []) ⟨hx, hb, hml, hown, hts⟩ (met_X6_put l dC dI cI cZ cS q9 3 (by decide) (fun _ => 0) H24.size (0 : Int32) (2 : Int32)) ⟨va_cnB 3 hts ggX5_init_X6_put rfl rfl rfl (hN_0 hN) (hw_ hts 22 rfl) (by decide +kernel) ⟨(Nat.le_of_ble_eq_true rfl), (Nat.le_of_ble_eq_true rfl)⟩, (hw_ hts 21 rfl), trivial⟩ (pS (wc := [(q9, .inl (cI, 3, .inl (fun _ => 0)))]) hK hP hD hN [9] rfl (by decide)) rfl rfl hl.1 rfl (lv_room (Nat.le_of_ble_eq_true rfl)) dX5_init_115 ⟨(Nat.le_of_ble_eq_true rfl), (Nat.le_of_ble_eq_true rfl)⟩) hS (fun q _ h => hF q h) hF (fun u t H25 locs ht hvm hw hB hz1 hk1 hS => ?_)
  try dsimp only at hw hB
  rw [ht] at hB
  subst hw
  have hP := wrk (w2 := [(h0, .inr (5, [.int (0 : Int32), .ref q1, .ref q2, .ref q3, .ref q4, .ref q5, .ref q6, .int (0 : Int32), .ref q7, .ref q8, .ref q9, .ref q10])), (q1, .inl (cI, 12, .inl (fun _ => 0))), (q2, .inl (cI, 12, .inl (fun _ => 0))), (q3, .inl (cI, 12, .inl (fun _ => 0))), (q4, .inl (cI, 12, .inl (fun _ => 0))), (q5, .inl (cI, 12, .inl (fJ7_fill_53178 12 (fun _ => 0) (-1 : Int32)))), (q6, .inl (cI, 12, .inl (fun _ => 0))), (q7, .inl (cI, 6, .inl (fun _ => 0))), (q8, .inl (cI, 6, .inl (fun _ => 0))), (q9, .inl (cI, 3, .inl (f6_put 3 (fun _ => 0) (0 : Int32) (2 : Int32)))), (q10, .inl (cI, 84, .inl (fJ7_fill_53178 84 (fun _ => 0) (-1 : Int32))))]) hP hD [9] rfl (by decide) hk1 hB rfl rfl
  have hD := D_addr (w1 := [(h0, .inr (5, [.int (0 : Int32), .ref q1, .ref q2, .ref q3, .ref q4, .ref q5, .ref q6, .int (0 : Int32), .ref q7, .ref q8, .ref q9, .ref q10])), (q1, .inl (cI, 12, .inl (fun _ => 0))), (q2, .inl (cI, 12, .inl (fun _ => 0))), (q3, .inl (cI, 12, .inl (fun _ => 0))), (q4, .inl (cI, 12, .inl (fun _ => 0))), (q5, .inl (cI, 12, .inl (fJ7_fill_53178 12 (fun _ => 0) (-1 : Int32)))), (q6, .inl (cI, 12, .inl (fun _ => 0))), (q7, .inl (cI, 6, .inl (fun _ => 0))), (q8, .inl (cI, 6, .inl (fun _ => 0))), (q9, .inl (cI, 3, .inl (f6_put 3 (fun _ => 0) (0 : Int32) (2 : Int32)))), (q10, .inl (cI, 84, .inl (fJ7_fill_53178 84 (fun _ => 0) (-1 : Int32))))]) hD rfl
  refine lv_aload_n hx hb dX5_init_118 rfl (lv_at hl 0 rfl) ?_
  refine va_get (D := (dC, dI)) (ci := 5) (v := .ref q9) (C := RX5) (T := TX5) (N := 12) hx hb hts hin1 hown hK hP 0 rfl rfl 10 (by decide) (hw_ hts 15 rfl) (fun _ h9 => h9) rfl dX5_init_119 ?_
  refine lv_iconst (v := (1 : Int32)) hx hb dX5_init_122 (by decide) ?_
  refine lv_iconst (v := (3 : Int32)) hx hb dX5_init_123 (by decide) ?_
  have hF := va_free (wc := [(q9, .inl (cI, 3, .inl (f6_put 3 (fun _ => 0) (0 : Int32) (2 : Int32))))]) hD hS hA [9] rfl
  refine va_callv (va_runSN (As := [.ref q9, .int (1 : Int32), .int (3 : Int32)]) (rest := []) ⟨hx, hb, hml, hown, hts⟩ (met_X6_put l dC dI cI cZ cS q9 3 (by decide) (f6_put 3 (fun _ => 0) (0 : Int32) (2 : Int32)) H25.size (1 : Int32) (3 : Int32)) ⟨va_cnB 3 hts ggX5_init_X6_put rfl rfl rfl (hN_0 hN) (hw_ hts 22 rfl) (by decide +kernel) ⟨(Nat.le_of_ble_eq_true rfl), (Nat.le_of_ble_eq_true rfl)⟩, (hw_ hts 21 rfl), trivial⟩ (pS (wc := [(q9, .inl (cI, 3, .inl (f6_put 3 (fun _ => 0) (0 : Int32) (2 : Int32))))]) hK hP hD hN [9] rfl (by decide)) rfl rfl hl.1 rfl (lv_room (Nat.le_of_ble_eq_true rfl)) dX5_init_124 ⟨(Nat.le_of_ble_eq_true rfl), (Nat.le_of_ble_eq_true rfl)⟩) hS (fun q _ h => hF q h) hF (fun u t H26 locs ht hvm hw hB hz1 hk1 hS => ?_)
  try dsimp only at hw hB
  rw [ht] at hB
  subst hw
  have hP := wrk (w2 := [(h0, .inr (5, [.int (0 : Int32), .ref q1, .ref q2, .ref q3, .ref q4, .ref q5, .ref q6, .int (0 : Int32), .ref q7, .ref q8, .ref q9, .ref q10])), (q1, .inl (cI, 12, .inl (fun _ => 0))), (q2, .inl (cI, 12, .inl (fun _ => 0))), (q3, .inl (cI, 12, .inl (fun _ => 0))), (q4, .inl (cI, 12, .inl (fun _ => 0))), (q5, .inl (cI, 12, .inl (fJ7_fill_53178 12 (fun _ => 0) (-1 : Int32)))), (q6, .inl (cI, 12, .inl (fun _ => 0))), (q7, .inl (cI, 6, .inl (fun _ => 0))), (q8, .inl (cI, 6, .inl (fun _ => 0))), (q9, .inl (cI, 3, .inl (f6_put 3 (f6_put 3 (fun _ => 0) (0 : Int32) (2 : Int32)) (1 : Int32) (3 : Int32)))), (q10, .inl (cI, 84, .inl (fJ7_fill_53178 84 (fun _ => 0) (-1 : Int32))))]) hP hD [9] rfl (by decide) hk1 hB rfl rfl
  have hD := D_addr (w1 := [(h0, .inr (5, [.int (0 : Int32), .ref q1, .ref q2, .ref q3, .ref q4, .ref q5, .ref q6, .int (0 : Int32), .ref q7, .ref q8, .ref q9, .ref q10])), (q1, .inl (cI, 12, .inl (fun _ => 0))), (q2, .inl (cI, 12, .inl (fun _ => 0))), (q3, .inl (cI, 12, .inl (fun _ => 0))), (q4, .inl (cI, 12, .inl (fun _ => 0))), (q5, .inl (cI, 12, .inl (fJ7_fill_53178 12 (fun _ => 0) (-1 : Int32)))), (q6, .inl (cI, 12, .inl (fun _ => 0))), (q7, .inl (cI, 6, .inl (fun _ => 0))), (q8, .inl (cI, 6, .inl (fun _ => 0))), (q9, .inl (cI, 3, .inl (f6_put 3 (f6_put 3 (fun _ => 0) (0 : Int32) (2 : Int32)) (1 : Int32) (3 : Int32)))), (q10, .inl (cI, 84, .inl (fJ7_fill_53178 84 (fun _ => 0) (-1 : Int32))))]) hD rfl
  refine lv_aload_n hx hb dX5_init_127 rfl (lv_at hl 0 rfl) ?_
  refine va_get (D := (dC, dI)) (ci := 5) (v := .ref q9) (C := RX5) (T := TX5) (N := 12) hx hb hts hin1 hown hK hP 0 rfl rfl 10 (by decide) (hw_ hts 15 rfl) (fun _ h9 => h9) rfl dX5_init_128 ?_
  refine lv_iconst (v := (2 : Int32)) hx hb dX5_init_131 (by decide) ?_
  refine lv_sipush (v := (200 : Int32)) hx hb dX5_init_132 (by decide) ?_
  have hF := va_free (wc := [(q9, .inl (cI, 3, .inl (f6_put 3 (f6_put 3 (fun _ => 0) (0 : Int32) (2 : Int32)) (1 : Int32) (3 : Int32))))]) hD hS hA [9] rfl
  refine va_callv (va_runSN (As := [.ref q9, .int (2 : Int32), .int (200 : Int32)]) (rest := []) ⟨hx, hb, hml, hown, hts⟩ (met_X6_put l dC dI cI cZ cS q9 3 (by decide) (f6_put 3 (f6_put 3 (fun _ => 0) (0 : Int32) (2 : Int32)) (1 : Int32) (3 : Int32)) H26.size (2 : Int32) (200 : Int32)) ⟨va_cnB 3 hts ggX5_init_X6_put rfl rfl rfl (hN_0 hN) (hw_ hts 22 rfl) (by decide +kernel) ⟨(Nat.le_of_ble_eq_true rfl), (Nat.le_of_ble_eq_true rfl)⟩, (hw_ hts 21 rfl), trivial⟩ (pS (wc := [(q9, .inl (cI, 3, .inl (f6_put 3 (f6_put 3 (fun _ => 0) (0 : Int32) (2 : Int32)) (1 : Int32) (3 : Int32))))]) hK hP hD hN [9] rfl (by decide)) rfl rfl hl.1 rfl (lv_room (Nat.le_of_ble_eq_true rfl)) dX5_init_135 ⟨(Nat.le_of_ble_eq_true rfl), (Nat.le_of_ble_eq_true rfl)⟩) hS (fun q _ h => hF q h) hF (fun u t H27 locs ht hvm hw hB hz1 hk1 hS => ?_)
  try dsimp only at hw hB
  rw [ht] at hB
  subst hw
  have hP := wrk (w2 := [(h0, .inr (5, [.int (0 : Int32), .ref q1, .ref q2, .ref q3, .ref q4, .ref q5, .ref q6, .int (0 : Int32), .ref q7, .ref q8, .ref q9, .ref q10])), (q1, .inl (cI, 12, .inl (fun _ => 0))), (q2, .inl (cI, 12, .inl (fun _ => 0))), (q3, .inl (cI, 12, .inl (fun _ => 0))), (q4, .inl (cI, 12, .inl (fun _ => 0))), (q5, .inl (cI, 12, .inl (fJ7_fill_53178 12 (fun _ => 0) (-1 : Int32)))), (q6, .inl (cI, 12, .inl (fun _ => 0))), (q7, .inl (cI, 6, .inl (fun _ => 0))), (q8, .inl (cI, 6, .inl (fun _ => 0))), (q9, .inl (cI, 3, .inl (f6_put 3 (f6_put 3 (f6_put 3 (fun _ => 0) (0 : Int32) (2 : Int32)) (1 : Int32) (3 : Int32)) (2 : Int32) (200 : Int32)))), (q10, .inl (cI, 84, .inl (fJ7_fill_53178 84 (fun _ => 0) (-1 : Int32))))]) hP hD [9] rfl (by decide) hk1 hB rfl rfl
  have hD := D_addr (w1 := [(h0, .inr (5, [.int (0 : Int32), .ref q1, .ref q2, .ref q3, .ref q4, .ref q5, .ref q6, .int (0 : Int32), .ref q7, .ref q8, .ref q9, .ref q10])), (q1, .inl (cI, 12, .inl (fun _ => 0))), (q2, .inl (cI, 12, .inl (fun _ => 0))), (q3, .inl (cI, 12, .inl (fun _ => 0))), (q4, .inl (cI, 12, .inl (fun _ => 0))), (q5, .inl (cI, 12, .inl (fJ7_fill_53178 12 (fun _ => 0) (-1 : Int32)))), (q6, .inl (cI, 12, .inl (fun _ => 0))), (q7, .inl (cI, 6, .inl (fun _ => 0))), (q8, .inl (cI, 6, .inl (fun _ => 0))), (q9, .inl (cI, 3, .inl (f6_put 3 (f6_put 3 (f6_put 3 (fun _ => 0) (0 : Int32) (2 : Int32)) (1 : Int32) (3 : Int32)) (2 : Int32) (200 : Int32)))), (q10, .inl (cI, 84, .inl (fJ7_fill_53178 84 (fun _ => 0) (-1 : Int32))))]) hD rfl
  have hP : va_P (dC, dI) vwCl (wSt cI (adr [h0, q1, q2, q3, q4, q5, q6, h0, q7, q8, q9, q10]) S00) H27 := hP
  have hD : va_D A (wSt cI (adr [h0, q1, q2, q3, q4, q5, q6, h0, q7, q8, q9, q10]) S00) := hD
  refine W.widen (k := 10) (n := 171) (Nat.le_of_ble_eq_true rfl) (Nat.le_of_ble_eq_true rfl) ?_
  exact W.vret hx hb hr (fun t ht hW => ⟨⟨(adr [h0, q1, q2, q3, q4, q5, q6, h0, q7, q8, q9, q10]), rfl, rfl, by rw [ht]; exact hP, hD⟩, hS.F ht⟩) hS.2.2 dX5_init_138
abbrev rm_X1_init : Room := { frames := 1, cells := 2, slots := 168, locals := 20 }
abbrev q_X1_init (dC : Nat → ClassId) (dI : Nat → Nat → Nat) (cI cZ cS : ClassId) (h0 : Nat) (A : Nat → Prop) : Array Value → State → Outcome → State → Prop := va_Qv (fun (u : Nat → Nat) => u 0 = h0) (fun u t => va_P (dC, dI) vwCl (wLo cI u P00) t.heap ∧ va_D A (wLo cI u P00)) A
set_option maxHeartbeats 4000000 in
set_option maxRecDepth 100000 in
theorem met_X1_init (l : Launch) (dC : Nat → ClassId) (dI : Nat → Nat → Nat) (cI cZ cS : ClassId) (h0 : Nat) (sz : Nat) : Met l yX1_init wsX1_init rm_X1_init (va_Pc [.ref h0] (pW (dC, dI) (tyS cI cZ cS) ([(h0, .inr (1, [.null, .null]))]) sz)) (q_X1_init dC dI cI cZ cS h0 (va_A ([(h0, .inr (1, [.null, .null]))]) sz)) 2 168 (va_A ([(h0, .inr (1, [.null, .null]))]) sz) := by
  refine Met.ofW (cc := cX1_init) (maxL := 1) (ret := none) (by decide) rfl ?_
  intro p e s m args below meth c s₁ B hml hv
  obtain ⟨rfl, hsz, hP, hK, hD0, hN⟩ := hv
  have hx := B.exec
  have hb := B.bytes
  have hr := B.returns
  have hts := atoms_spec (ws := wsX1_init) B.pre
  have hown : s.vm.findClass RX1 = some m.cls := findClass_of_methodNamed B.named
  have hlocks := B.notSynchronized
  have hin : meth.name = "<init>" := (name_of_methodNamed B.named B.method).1
  subst hsz
  have hD := hD0.self (sz := s.heap.size)
  generalize hAe : va_A ([(h0, .inr (1, [.null, .null]))]) s.heap.size = A at hD ⊢
  have hA : ∀ q : Nat, s.heap.size ≤ q → A q := fun q h => by rw [← hAe]; exact Or.inr h
  have hS : va_S A s.heap s.heap [] := va_S.rf
  have hP : va_P (dC, dI) vwCl ([(h0, .inr (1, [.null, .null]))]) s.heap := hP
  have hin1 : ∀ w ∈ wsX10, w ∈ wsX1_init := by decide +kernel
  have hl := lv_entry ([.ref h0]) (n := 1) (Nat.le_of_ble_eq_true rfl)
  rw [lg_entry_eq]
  generalize (lg_sl ([.ref h0]) ++ List.replicate (1 - (lg_sl ([.ref h0])).length) Slot.unset).toArray = ls at hl ⊢
  have hl : lv_has ls 1 [(0, .ref h0)] := hl
  refine lv_aload_n hx hb dX1_init_0 rfl (lv_at hl 0 rfl) ?_
  refine W.objInit hx hb hown (hw_ hts 1 rfl) (hw_ hts 2 rfl) (hw_ hts 3 rfl) rfl (by rw [hml]; exact hl.1) rfl dX1_init_1 (Nat.le_of_ble_eq_true rfl) (Nat.le_of_ble_eq_true rfl) ?_
  refine W.eq (g2 := F0 m 4 ls []) rfl ?_
  refine lv_aload_n hx hb dX1_init_4 rfl (lv_at hl 0 rfl) ?_
  refine lv_bipush (v := (84 : Int32)) hx hb dX1_init_5 (by decide) ?_
  refine va_newa (atype := .int) (ty := .int) (a0 := (84, .inl (fun _ => 0))) (n := (84 : Int32)) (N' := 84) hx hb (hw_ hts 4 rfl) rfl hK hP hD hS hA (fun _ => rfl) (by decide) rfl (Nat.le_of_ble_eq_true rfl) (Nat.le_of_ble_eq_true rfl) (Nat.le_of_ble_eq_true rfl) dX1_init_7 (fun q1 cA H1 hK1 hP hD hS => ?_)
  have e1 := ty_eq 0 hK1 rfl
  rw [e1] at hP hD
  clear hK1 e1
  have hP : va_P (dC, dI) vwCl ([(h0, .inr (1, [.null, .null])), (q1, .inl (cI, 84, .inl (fun _ => 0)))]) H1 := hP
  have hD : va_D A ([(h0, .inr (1, [.null, .null])), (q1, .inl (cI, 84, .inl (fun _ => 0)))]) := hD
  refine va_putF (D := (dC, dI)) (ci := 1) (v := .ref q1) (ty := tyX1 0) (C := RX1) (T := TX1) (N := 2) hx hb hts hin1 tyX1 tyX1_ok nmX1 hown hK hP hD hS 0 rfl rfl 0 (by decide) (hw_ hts 5 rfl) (fun _ h9 => h9) rfl hin rfl (tyX1_ok 0 (by decide)) rfl rfl (Nat.le_of_ble_eq_true rfl) dX1_init_9 (fun H2 locs hP hD hS => ?_)
  have hP : va_P (dC, dI) vwCl ([(h0, .inr (1, [.ref q1, .null])), (q1, .inl (cI, 84, .inl (fun _ => 0)))]) H2 := hP
  have hD : va_D A ([(h0, .inr (1, [.ref q1, .null])), (q1, .inl (cI, 84, .inl (fun _ => 0)))]) := hD
  refine lv_aload_n hx hb dX1_init_12 rfl (lv_at hl 0 rfl) ?_
  refine lv_bipush (v := (84 : Int32)) hx hb dX1_init_13 (by decide) ?_
  refine va_newa (atype := .int) (ty := .int) (a0 := (84, .inl (fun _ => 0))) (n := (84 : Int32)) (N' := 84) hx hb (hw_ hts 4 rfl) rfl hK hP hD hS hA (fun _ => rfl) (by decide) rfl (Nat.le_of_ble_eq_true rfl) (Nat.le_of_ble_eq_true rfl) (Nat.le_of_ble_eq_true rfl) dX1_init_15 (fun q2 cA H3 hK1 hP hD hS => ?_)
  have e1 := ty_eq 0 hK1 rfl
  rw [e1] at hP hD
  clear hK1 e1
  have hP : va_P (dC, dI) vwCl ([(h0, .inr (1, [.ref q1, .null])), (q1, .inl (cI, 84, .inl (fun _ => 0))), (q2, .inl (cI, 84, .inl (fun _ => 0)))]) H3 := hP
  have hD : va_D A ([(h0, .inr (1, [.ref q1, .null])), (q1, .inl (cI, 84, .inl (fun _ => 0))), (q2, .inl (cI, 84, .inl (fun _ => 0)))]) := hD
  refine va_putF (D := (dC, dI)) (ci := 1) (v := .ref q2) (ty := tyX1 1) (C := RX1) (T := TX1) (N := 2) hx hb hts hin1 tyX1 tyX1_ok nmX1 hown hK hP hD hS 0 rfl rfl 1 (by decide) (hw_ hts 6 rfl) (fun _ h9 => h9) rfl hin rfl (tyX1_ok 1 (by decide)) rfl rfl (Nat.le_of_ble_eq_true rfl) dX1_init_17 (fun H4 locs hP hD hS => ?_)
  have hP : va_P (dC, dI) vwCl ([(h0, .inr (1, [.ref q1, .ref q2])), (q1, .inl (cI, 84, .inl (fun _ => 0))), (q2, .inl (cI, 84, .inl (fun _ => 0)))]) H4 := hP
  have hD : va_D A ([(h0, .inr (1, [.ref q1, .ref q2])), (q1, .inl (cI, 84, .inl (fun _ => 0))), (q2, .inl (cI, 84, .inl (fun _ => 0)))]) := hD
  have hP : va_P (dC, dI) vwCl (wLo cI (adr [h0, q1, q2]) P00) H4 := hP
  have hD : va_D A (wLo cI (adr [h0, q1, q2]) P00) := hD
  refine W.widen (k := 2) (n := 168) (Nat.le_of_ble_eq_true rfl) (Nat.le_of_ble_eq_true rfl) ?_
  exact W.vret hx hb hr (fun t ht hW => ⟨⟨(adr [h0, q1, q2]), rfl, rfl, by rw [ht]; exact hP, hD⟩, hS.F ht⟩) hS.2.2 dX1_init_20
abbrev rm_X3_init : Room := { frames := 1, cells := 1, slots := 60, locals := 20 }
abbrev q_X3_init (dC : Nat → ClassId) (dI : Nat → Nat → Nat) (cI cZ cS : ClassId) (h0 : Nat) (A : Nat → Prop) : Array Value → State → Outcome → State → Prop := va_Qv (fun (u : Nat → Nat) => u 0 = h0) (fun u t => va_P (dC, dI) vwCl (wTx cI u P00) t.heap ∧ va_D A (wTx cI u P00)) A
set_option maxHeartbeats 4000000 in
set_option maxRecDepth 100000 in
theorem met_X3_init (l : Launch) (dC : Nat → ClassId) (dI : Nat → Nat → Nat) (cI cZ cS : ClassId) (h0 : Nat) (sz : Nat) : Met l yX3_init wsX3_init rm_X3_init (va_Pc [.ref h0] (pW (dC, dI) (tyS cI cZ cS) ([(h0, .inr (3, [.null, .int 0]))]) sz)) (q_X3_init dC dI cI cZ cS h0 (va_A ([(h0, .inr (3, [.null, .int 0]))]) sz)) 1 60 (va_A ([(h0, .inr (3, [.null, .int 0]))]) sz) := by
  refine Met.ofW (cc := cX3_init) (maxL := 1) (ret := none) (by decide) rfl ?_
  intro p e s m args below meth c s₁ B hml hv
  obtain ⟨rfl, hsz, hP, hK, hD0, hN⟩ := hv
  have hx := B.exec
  have hb := B.bytes
  have hr := B.returns
  have hts := atoms_spec (ws := wsX3_init) B.pre
  have hown : s.vm.findClass RX3 = some m.cls := findClass_of_methodNamed B.named
  have hlocks := B.notSynchronized
  have hin : meth.name = "<init>" := (name_of_methodNamed B.named B.method).1
  subst hsz
  have hD := hD0.self (sz := s.heap.size)
  generalize hAe : va_A ([(h0, .inr (3, [.null, .int 0]))]) s.heap.size = A at hD ⊢
  have hA : ∀ q : Nat, s.heap.size ≤ q → A q := fun q h => by rw [← hAe]; exact Or.inr h
  have hS : va_S A s.heap s.heap [] := va_S.rf
  have hP : va_P (dC, dI) vwCl ([(h0, .inr (3, [.null, .int 0]))]) s.heap := hP
  have hin1 : ∀ w ∈ wsX30, w ∈ wsX3_init := by decide +kernel
  have hl := lv_entry ([.ref h0]) (n := 1) (Nat.le_of_ble_eq_true rfl)
  rw [lg_entry_eq]
  generalize (lg_sl ([.ref h0]) ++ List.replicate (1 - (lg_sl ([.ref h0])).length) Slot.unset).toArray = ls at hl ⊢
  have hl : lv_has ls 1 [(0, .ref h0)] := hl
  refine lv_aload_n hx hb dX3_init_0 rfl (lv_at hl 0 rfl) ?_
  refine W.objInit hx hb hown (hw_ hts 1 rfl) (hw_ hts 2 rfl) (hw_ hts 3 rfl) rfl (by rw [hml]; exact hl.1) rfl dX3_init_1 (Nat.le_of_ble_eq_true rfl) (Nat.le_of_ble_eq_true rfl) ?_
  refine W.eq (g2 := F0 m 4 ls []) rfl ?_
  refine lv_aload_n hx hb dX3_init_4 rfl (lv_at hl 0 rfl) ?_
  refine lv_bipush (v := (60 : Int32)) hx hb dX3_init_5 (by decide) ?_
  refine va_newa (atype := .int) (ty := .int) (a0 := (60, .inl (fun _ => 0))) (n := (60 : Int32)) (N' := 60) hx hb (hw_ hts 4 rfl) rfl hK hP hD hS hA (fun _ => rfl) (by decide) rfl (Nat.le_of_ble_eq_true rfl) (Nat.le_of_ble_eq_true rfl) (Nat.le_of_ble_eq_true rfl) dX3_init_7 (fun q1 cA H1 hK1 hP hD hS => ?_)
  have e1 := ty_eq 0 hK1 rfl
  rw [e1] at hP hD
  clear hK1 e1
  have hP : va_P (dC, dI) vwCl ([(h0, .inr (3, [.null, .int 0])), (q1, .inl (cI, 60, .inl (fun _ => 0)))]) H1 := hP
  have hD : va_D A ([(h0, .inr (3, [.null, .int 0])), (q1, .inl (cI, 60, .inl (fun _ => 0)))]) := hD
  refine va_putF (D := (dC, dI)) (ci := 3) (v := .ref q1) (ty := tyX3 0) (C := RX3) (T := TX3) (N := 2) hx hb hts hin1 tyX3 tyX3_ok nmX3 hown hK hP hD hS 0 rfl rfl 0 (by decide) (hw_ hts 5 rfl) (fun _ h9 => h9) rfl hin rfl (tyX3_ok 0 (by decide)) rfl rfl (Nat.le_of_ble_eq_true rfl) dX3_init_9 (fun H2 locs hP hD hS => ?_)
  have hP : va_P (dC, dI) vwCl ([(h0, .inr (3, [.ref q1, .int 0])), (q1, .inl (cI, 60, .inl (fun _ => 0)))]) H2 := hP
  have hD : va_D A ([(h0, .inr (3, [.ref q1, .int 0])), (q1, .inl (cI, 60, .inl (fun _ => 0)))]) := hD
  refine lv_aload_n hx hb dX3_init_12 rfl (lv_at hl 0 rfl) ?_
  refine lv_iconst (v := (0 : Int32)) hx hb dX3_init_13 (by decide) ?_
  refine va_put (D := (dC, dI)) (ci := 3) (v := .int (0 : Int32)) (ty := tyX3 1) (C := RX3) (T := TX3) (N := 2) hx hb hts hin1 tyX3 tyX3_ok nmX3 hown hK hP hD hS 0 rfl rfl 1 (by decide) (hw_ hts 6 rfl) (fun _ h9 => h9) rfl (tyX3_ok 1 (by decide)) rfl rfl (Nat.le_of_ble_eq_true rfl) dX3_init_14 (fun H3 locs hP hD hS => ?_)
  have hP : va_P (dC, dI) vwCl ([(h0, .inr (3, [.ref q1, .int (0 : Int32)])), (q1, .inl (cI, 60, .inl (fun _ => 0)))]) H3 := hP
  have hD : va_D A ([(h0, .inr (3, [.ref q1, .int (0 : Int32)])), (q1, .inl (cI, 60, .inl (fun _ => 0)))]) := hD
  have hP : va_P (dC, dI) vwCl (wTx cI (adr [h0, q1]) P00) H3 := hP
  have hD : va_D A (wTx cI (adr [h0, q1]) P00) := hD
  refine W.widen (k := 1) (n := 60) (Nat.le_of_ble_eq_true rfl) (Nat.le_of_ble_eq_true rfl) ?_
  exact W.vret hx hb hr (fun t ht hW => ⟨⟨(adr [h0, q1]), rfl, rfl, by rw [ht]; exact hP, hD⟩, hS.F ht⟩) hS.2.2 dX3_init_17
abbrev rm_X4_init : Room := { frames := 1, cells := 2, slots := 170, locals := 20 }
abbrev q_X4_init (dC : Nat → ClassId) (dI : Nat → Nat → Nat) (cI cZ cS : ClassId) (h0 : Nat) (A : Nat → Prop) : Array Value → State → Outcome → State → Prop := va_Qv (fun (u : Nat → Nat) => u 0 = h0) (fun u t => va_P (dC, dI) vwCl (wSn cI cZ u P00) t.heap ∧ va_D A (wSn cI cZ u P00)) A
set_option maxHeartbeats 4000000 in
set_option maxRecDepth 100000 in
theorem met_X4_init (l : Launch) (dC : Nat → ClassId) (dI : Nat → Nat → Nat) (cI cZ cS : ClassId) (h0 : Nat) (sz : Nat) : Met l yX4_init wsX4_init rm_X4_init (va_Pc [.ref h0] (pW (dC, dI) (tyS cI cZ cS) ([(h0, .inr (4, [.null, .null]))]) sz)) (q_X4_init dC dI cI cZ cS h0 (va_A ([(h0, .inr (4, [.null, .null]))]) sz)) 2 170 (va_A ([(h0, .inr (4, [.null, .null]))]) sz) := by
  refine Met.ofW (cc := cX4_init) (maxL := 1) (ret := none) (by decide) rfl ?_
  intro p e s m args below meth c s₁ B hml hv
  obtain ⟨rfl, hsz, hP, hK, hD0, hN⟩ := hv
  have hx := B.exec
  have hb := B.bytes
  have hr := B.returns
  have hts := atoms_spec (ws := wsX4_init) B.pre
  have hown : s.vm.findClass RX4 = some m.cls := findClass_of_methodNamed B.named
  have hlocks := B.notSynchronized
  have hin : meth.name = "<init>" := (name_of_methodNamed B.named B.method).1
  subst hsz
  have hD := hD0.self (sz := s.heap.size)
  generalize hAe : va_A ([(h0, .inr (4, [.null, .null]))]) s.heap.size = A at hD ⊢
  have hA : ∀ q : Nat, s.heap.size ≤ q → A q := fun q h => by rw [← hAe]; exact Or.inr h
  have hS : va_S A s.heap s.heap [] := va_S.rf
  have hP : va_P (dC, dI) vwCl ([(h0, .inr (4, [.null, .null]))]) s.heap := hP
  have hin1 : ∀ w ∈ wsX40, w ∈ wsX4_init := by decide +kernel
  have hl := lv_entry ([.ref h0]) (n := 1) (Nat.le_of_ble_eq_true rfl)
  rw [lg_entry_eq]
  generalize (lg_sl ([.ref h0]) ++ List.replicate (1 - (lg_sl ([.ref h0])).length) Slot.unset).toArray = ls at hl ⊢
  have hl : lv_has ls 1 [(0, .ref h0)] := hl
  refine lv_aload_n hx hb dX4_init_0 rfl (lv_at hl 0 rfl) ?_
  refine W.objInit hx hb hown (hw_ hts 1 rfl) (hw_ hts 2 rfl) (hw_ hts 3 rfl) rfl (by rw [hml]; exact hl.1) rfl dX4_init_1 (Nat.le_of_ble_eq_true rfl) (Nat.le_of_ble_eq_true rfl) ?_
  refine W.eq (g2 := F0 m 4 ls []) rfl ?_
  refine lv_aload_n hx hb dX4_init_4 rfl (lv_at hl 0 rfl) ?_
  refine lv_sipush (v := (168 : Int32)) hx hb dX4_init_5 (by decide) ?_
  refine va_newa (atype := .int) (ty := .int) (a0 := (168, .inl (fun _ => 0))) (n := (168 : Int32)) (N' := 168) hx hb (hw_ hts 4 rfl) rfl hK hP hD hS hA (fun _ => rfl) (by decide) rfl (Nat.le_of_ble_eq_true rfl) (Nat.le_of_ble_eq_true rfl) (Nat.le_of_ble_eq_true rfl) dX4_init_8 (fun q1 cA H1 hK1 hP hD hS => ?_)
  have e1 := ty_eq 0 hK1 rfl
  rw [e1] at hP hD
  clear hK1 e1
  have hP : va_P (dC, dI) vwCl ([(h0, .inr (4, [.null, .null])), (q1, .inl (cI, 168, .inl (fun _ => 0)))]) H1 := hP
  have hD : va_D A ([(h0, .inr (4, [.null, .null])), (q1, .inl (cI, 168, .inl (fun _ => 0)))]) := hD
  refine va_putF (D := (dC, dI)) (ci := 4) (v := .ref q1) (ty := tyX4 0) (C := RX4) (T := TX4) (N := 2) hx hb hts hin1 tyX4 tyX4_ok nmX4 hown hK hP hD hS 0 rfl rfl 0 (by decide) (hw_ hts 5 rfl) (fun _ h9 => h9) rfl hin rfl (tyX4_ok 0 (by decide)) rfl rfl (Nat.le_of_ble_eq_true rfl) dX4_init_10 (fun H2 locs hP hD hS => ?_)
  have hP : va_P (dC, dI) vwCl ([(h0, .inr (4, [.ref q1, .null])), (q1, .inl (cI, 168, .inl (fun _ => 0)))]) H2 := hP
  have hD : va_D A ([(h0, .inr (4, [.ref q1, .null])), (q1, .inl (cI, 168, .inl (fun _ => 0)))]) := hD
  refine lv_aload_n hx hb dX4_init_13 rfl (lv_at hl 0 rfl) ?_
  refine lv_iconst (v := (2 : Int32)) hx hb dX4_init_14 (by decide) ?_
  refine va_newa (atype := .boolean) (ty := .boolean) (a0 := (2, .inl (fun _ => 0))) (n := (2 : Int32)) (N' := 2) hx hb (hw_ hts 6 rfl) rfl hK hP hD hS hA (fun _ => rfl) (by decide) rfl (Nat.le_of_ble_eq_true rfl) (Nat.le_of_ble_eq_true rfl) (Nat.le_of_ble_eq_true rfl) dX4_init_15 (fun q2 cA H3 hK1 hP hD hS => ?_)
  have e1 := ty_eq 1 hK1 rfl
  rw [e1] at hP hD
  clear hK1 e1
  have hP : va_P (dC, dI) vwCl ([(h0, .inr (4, [.ref q1, .null])), (q1, .inl (cI, 168, .inl (fun _ => 0))), (q2, .inl (cZ, 2, .inl (fun _ => 0)))]) H3 := hP
  have hD : va_D A ([(h0, .inr (4, [.ref q1, .null])), (q1, .inl (cI, 168, .inl (fun _ => 0))), (q2, .inl (cZ, 2, .inl (fun _ => 0)))]) := hD
  refine va_putF (D := (dC, dI)) (ci := 4) (v := .ref q2) (ty := tyX4 1) (C := RX4) (T := TX4) (N := 2) hx hb hts hin1 tyX4 tyX4_ok nmX4 hown hK hP hD hS 0 rfl rfl 1 (by decide) (hw_ hts 7 rfl) (fun _ h9 => h9) rfl hin rfl (tyX4_ok 1 (by decide)) rfl rfl (Nat.le_of_ble_eq_true rfl) dX4_init_17 (fun H4 locs hP hD hS => ?_)
  have hP : va_P (dC, dI) vwCl ([(h0, .inr (4, [.ref q1, .ref q2])), (q1, .inl (cI, 168, .inl (fun _ => 0))), (q2, .inl (cZ, 2, .inl (fun _ => 0)))]) H4 := hP
  have hD : va_D A ([(h0, .inr (4, [.ref q1, .ref q2])), (q1, .inl (cI, 168, .inl (fun _ => 0))), (q2, .inl (cZ, 2, .inl (fun _ => 0)))]) := hD
  have hP : va_P (dC, dI) vwCl (wSn cI cZ (adr [h0, q1, q2]) P00) H4 := hP
  have hD : va_D A (wSn cI cZ (adr [h0, q1, q2]) P00) := hD
  refine W.widen (k := 2) (n := 170) (Nat.le_of_ble_eq_true rfl) (Nat.le_of_ble_eq_true rfl) ?_
  exact W.vret hx hb hr (fun t ht hW => ⟨⟨(adr [h0, q1, q2]), rfl, rfl, by rw [ht]; exact hP, hD⟩, hS.F ht⟩) hS.2.2 dX4_init_20
abbrev rm_X2_init : Room := { frames := 1, cells := 0, slots := 0, locals := 20 }
abbrev q_X2_init (dC : Nat → ClassId) (dI : Nat → Nat → Nat) (cI cZ cS : ClassId) (h0 : Nat) (aS aL : Nat) (A : Nat → Prop) : Array Value → State → Outcome → State → Prop := va_Qv (fun (u : Unit) => True) (fun u t => va_P (dC, dI) vwCl ([(h0, .inr (2, [.ref aS, .ref aL]))]) t.heap ∧ va_D A ([(h0, .inr (2, [.ref aS, .ref aL]))])) A
set_option maxHeartbeats 4000000 in
set_option maxRecDepth 100000 in
theorem met_X2_init (l : Launch) (dC : Nat → ClassId) (dI : Nat → Nat → Nat) (cI cZ cS : ClassId) (h0 : Nat) (aS aL : Nat) (sz : Nat) : Met l yX2_init wsX2_init rm_X2_init (va_Pc [.ref h0, .ref aS, .ref aL] (pW (dC, dI) (tyS cI cZ cS) ([(h0, .inr (2, [.null, .null]))]) sz)) (q_X2_init dC dI cI cZ cS h0 aS aL (va_A ([(h0, .inr (2, [.null, .null]))]) sz)) 0 0 (va_A ([(h0, .inr (2, [.null, .null]))]) sz) := by
  refine Met.ofW (cc := cX2_init) (maxL := 3) (ret := none) (by decide) rfl ?_
  intro p e s m args below meth c s₁ B hml hv
  obtain ⟨rfl, hsz, hP, hK, hD0, hN⟩ := hv
  have hx := B.exec
  have hb := B.bytes
  have hr := B.returns
  have hts := atoms_spec (ws := wsX2_init) B.pre
  have hown : s.vm.findClass RX2 = some m.cls := findClass_of_methodNamed B.named
  have hlocks := B.notSynchronized
  have hin : meth.name = "<init>" := (name_of_methodNamed B.named B.method).1
  subst hsz
  have hD := hD0.self (sz := s.heap.size)
  generalize hAe : va_A ([(h0, .inr (2, [.null, .null]))]) s.heap.size = A at hD ⊢
  have hA : ∀ q : Nat, s.heap.size ≤ q → A q := fun q h => by rw [← hAe]; exact Or.inr h
  have hS : va_S A s.heap s.heap [] := va_S.rf
  have hP : va_P (dC, dI) vwCl ([(h0, .inr (2, [.null, .null]))]) s.heap := hP
  have hin1 : ∀ w ∈ wsX20, w ∈ wsX2_init := by decide +kernel
  have hl := lv_entry ([.ref h0, .ref aS, .ref aL]) (n := 3) (Nat.le_of_ble_eq_true rfl)
  rw [lg_entry_eq]
  generalize (lg_sl ([.ref h0, .ref aS, .ref aL]) ++ List.replicate (3 - (lg_sl ([.ref h0, .ref aS, .ref aL])).length) Slot.unset).toArray = ls at hl ⊢
  have hl : lv_has ls 3 [(0, .ref h0), (1, .ref aS), (2, .ref aL)] := hl
  refine lv_aload_n hx hb dX2_init_0 rfl (lv_at hl 0 rfl) ?_
  refine W.objInit hx hb hown (hw_ hts 1 rfl) (hw_ hts 2 rfl) (hw_ hts 3 rfl) rfl (by rw [hml]; exact hl.1) rfl dX2_init_1 (Nat.le_of_ble_eq_true rfl) (Nat.le_of_ble_eq_true rfl) ?_
  refine W.eq (g2 := F0 m 4 ls []) rfl ?_
  refine lv_aload_n hx hb dX2_init_4 rfl (lv_at hl 0 rfl) ?_
  refine lv_aload_n hx hb dX2_init_5 rfl (lv_at hl 1 rfl) ?_
  refine va_putF (D := (dC, dI)) (ci := 2) (v := .ref aS) (ty := tyX2 0) (C := RX2) (T := TX2) (N := 2) hx hb hts hin1 tyX2 tyX2_ok nmX2 hown hK hP hD hS 0 rfl rfl 0 (by decide) (hw_ hts 4 rfl) (fun _ h9 => h9) rfl hin rfl (tyX2_ok 0 (by decide)) rfl rfl (Nat.le_of_ble_eq_true rfl) dX2_init_6 (fun H1 locs hP hD hS => ?_)
  have hP : va_P (dC, dI) vwCl ([(h0, .inr (2, [.ref aS, .null]))]) H1 := hP
  have hD : va_D A ([(h0, .inr (2, [.ref aS, .null]))]) := hD
  refine lv_aload_n hx hb dX2_init_9 rfl (lv_at hl 0 rfl) ?_
  refine lv_aload_n hx hb dX2_init_10 rfl (lv_at hl 2 rfl) ?_
  refine va_putF (D := (dC, dI)) (ci := 2) (v := .ref aL) (ty := tyX2 1) (C := RX2) (T := TX2) (N := 2) hx hb hts hin1 tyX2 tyX2_ok nmX2 hown hK hP hD hS 0 rfl rfl 1 (by decide) (hw_ hts 5 rfl) (fun _ h9 => h9) rfl hin rfl (tyX2_ok 1 (by decide)) rfl rfl (Nat.le_of_ble_eq_true rfl) dX2_init_11 (fun H2 locs hP hD hS => ?_)
  have hP : va_P (dC, dI) vwCl ([(h0, .inr (2, [.ref aS, .ref aL]))]) H2 := hP
  have hD : va_D A ([(h0, .inr (2, [.ref aS, .ref aL]))]) := hD
  have hP : va_P (dC, dI) vwCl ([(h0, .inr (2, [.ref aS, .ref aL]))]) H2 := hP
  have hD : va_D A ([(h0, .inr (2, [.ref aS, .ref aL]))]) := hD
  refine W.widen (k := 0) (n := 0) (Nat.le_of_ble_eq_true rfl) (Nat.le_of_ble_eq_true rfl) ?_
  exact W.vret hx hb hr (fun t ht hW => ⟨⟨(), rfl, trivial, by rw [ht]; exact hP, hD⟩, hS.F ht⟩) hS.2.2 dX2_init_14
