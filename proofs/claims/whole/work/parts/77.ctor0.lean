/-! the constructors that make objects -/
def pWO (D : va_G) (tys : List (ClassId × FieldType)) (ws : va_W) (sz : Nat) : State → Prop := fun U => pW D tys ws sz U ∧ va_AO RX5 U
theorem pSO {D : va_G} {tys : List (ClassId × FieldType)} {ws wc : va_W} {s : State} {H : Heap} {A : Nat → Prop} {As : List Value} (hK : va_K D vwCl tys s) (hP : va_P D vwCl ws H) (hD : va_D A ws) (hN : NW s) (hO : va_AO RX5 s) (is : List Nat) (hs : is.map (fun i => ws[i]?) = wc.map some) (nd : va_nd is = true) : PreS s H (va_Pc As (pWO D tys wc H.size)) As :=
  ⟨fun a U g mk q => ⟨q.1, (pW_blind a U g mk ⟨q.1, q.2.1⟩).2, va_AO.moved (u := U) (U := U.calling g mk a) (Vm.Alike.refl U.vm) q.2.2⟩, fun U hU hW => ⟨rfl, pW_call hK hP hD hN is hs nd U hU hW, va_AO.moved hW.alike hO⟩⟩
def ahs (u1 u2 u3 u4 u5 u6 : Nat → Nat) : Nat → Nat → Nat := fun k => match k with
  | 0 => u1
  | 1 => u2
  | 2 => u3
  | 3 => u4
  | 4 => u5
  | _ => u6
theorem P_ref {D : va_G} {cl : List vw_C} {ws ws' : va_W} {H : Heap} {a n : Nat} {cA : ClassId} {f g : Nat → Option Nat} (k : Nat) (hk : ws[k]? = some (a, .inl (cA, n, .inr (.inr (.inr (.inr f)))))) (e : ∀ i, i < n → f i = g i) (hw : ws' = ws.set k (a, .inl (cA, n, .inr (.inr (.inr (.inr g)))))) (hP : va_P D cl ws H) : va_P D cl ws' H := by
  subst hw
  intro j q hq
  by_cases h : k = j
  · subst h
    have h1 := hP k _ hk
    rw [List.getElem?_set_self (List.getElem?_eq_some_iff.mp hk).1] at hq
    cases hq
    have e2 : vp_cell cA (n, .inr (.inr (.inr (.inr g)))) = vp_cell cA (n, .inr (.inr (.inr (.inr f)))) := by
      show arrV cA n (fun j => va_rf (g j)) = arrV cA n (fun j => va_rf (f j))
      unfold arrV
      have e3 : (fun j : Fin n => va_rf (g j.val)) = (fun j : Fin n => va_rf (f j.val)) := by
        funext j
        rw [e j.1 j.2]
      rw [e3]
    show H[a]? = some (vp_cell cA _)
    rw [e2]
    exact h1
  · rw [List.getElem?_set_ne h] at hq
    exact hP j q hq
theorem dfl5 (j : Nat) (hj : j < 12) : defaultValue (tyX5 j) = vp_V [.int 0, .null, .null, .null, .null, .null, .null, .int 0, .null, .null, .null, .null] j := by
  rcases (show j = 0 ∨ j = 1 ∨ j = 2 ∨ j = 3 ∨ j = 4 ∨ j = 5 ∨ j = 6 ∨ j = 7 ∨ j = 8 ∨ j = 9 ∨ j = 10 ∨ j = 11 by omega) with rfl | rfl | rfl | rfl | rfl | rfl | rfl | rfl | rfl | rfl | rfl | rfl <;> rfl
theorem dfl1 (j : Nat) (hj : j < 2) : defaultValue (tyX1 j) = vp_V [.null, .null] j := by rcases (show j = 0 ∨ j = 1 by omega) with rfl | rfl <;> rfl
theorem dfl2 (j : Nat) (hj : j < 2) : defaultValue (tyX2 j) = vp_V [.null, .null] j := by rcases (show j = 0 ∨ j = 1 by omega) with rfl | rfl <;> rfl
theorem dfl3 (j : Nat) (hj : j < 2) : defaultValue (tyX3 j) = vp_V [.null, .int 0] j := by rcases (show j = 0 ∨ j = 1 by omega) with rfl | rfl <;> rfl
theorem dfl4 (j : Nat) (hj : j < 2) : defaultValue (tyX4 j) = vp_V [.null, .null] j := by rcases (show j = 0 ∨ j = 1 by omega) with rfl | rfl <;> rfl
theorem dfl0 (j : Nat) (hj : j < 3) : defaultValue (tyX0 j) = vp_V [.null, .int 0, .int 0] j := by rcases (show j = 0 ∨ j = 1 ∨ j = 2 by omega) with rfl | rfl | rfl <;> rfl
/-- the planner's fresh world -/
def FW (cI cZ cS : ClassId) (aF aN aT aL aO aH : Nat → Nat) (ah : Nat → Nat → Nat) (aP aX : Nat → Nat) : va_W := wFm aF aN aT aL aO aH aP aX ++ (wSt cI aN S00 ++ (wSt cI aT S00 ++ (wLo cI aL P00 ++ (wOu aO aN aL ++ (wHi cS aH ah P00 ++ (wZs cI ah (fun _ => S00) ++ (wSn cI cZ aP P00 ++ wTx cI aX P00)))))))

abbrev rm_X0_init : Room := { frames := 2, cells := 67, slots := 1104, locals := 43 }
abbrev q_X0_init (dC : Nat → ClassId) (dI : Nat → Nat → Nat) (cI cZ cS : ClassId) (h0 : Nat) (A : Nat → Prop) : Array Value → State → Outcome → State → Prop := va_Qv (fun (u : (Nat → Nat) × (Nat → Nat → Nat)) => u.1 0 = h0) (fun u t => va_P (dC, dI) vwCl (wHi cS u.1 u.2 P00 ++ wZs cI u.2 (fun _ => S00)) t.heap ∧ va_D A (wHi cS u.1 u.2 P00 ++ wZs cI u.2 (fun _ => S00))) A
set_option maxHeartbeats 4000000 in
set_option maxRecDepth 100000 in
theorem met_X0_init (l : Launch) (dC : Nat → ClassId) (dI : Nat → Nat → Nat) (cI cZ cS : ClassId) (h0 : Nat) (sz : Nat) : Met l yX0_init wsX0_init rm_X0_init (va_Pc [.ref h0] (pWO (dC, dI) (tyS cI cZ cS) ([(h0, .inr (0, [.null, .int 0, .int 0]))]) sz)) (q_X0_init dC dI cI cZ cS h0 (va_A ([(h0, .inr (0, [.null, .int 0, .int 0]))]) sz)) 67 1104 (va_A ([(h0, .inr (0, [.null, .int 0, .int 0]))]) sz) := by
  refine Met.ofW (cc := cX0_init) (maxL := 2) (ret := none) (by decide) rfl ?_
  intro p e s m args below meth c s₁ B hml hv
  obtain ⟨rfl, ⟨hsz, hP, hK, hD0, hN⟩, hAO⟩ := hv
  have hx := B.exec
  have hb := B.bytes
  have hr := B.returns
  have hts := atoms_spec (ws := wsX0_init) B.pre
  have hown : s.vm.findClass RX0 = some m.cls := findClass_of_methodNamed B.named
  have hlocks := B.notSynchronized
  have hin : meth.name = "<init>" := (name_of_methodNamed B.named B.method).1
  subst hsz
  have hD := hD0.self (sz := s.heap.size)
  generalize hAe : va_A ([(h0, .inr (0, [.null, .int 0, .int 0]))]) s.heap.size = A at hD ⊢
  have hA : ∀ q : Nat, s.heap.size ≤ q → A q := fun q h => by rw [← hAe]; exact Or.inr h
  have hS : va_S A s.heap s.heap [] := va_S.rf
  have hP : va_P (dC, dI) vwCl ([(h0, .inr (0, [.null, .int 0, .int 0]))]) s.heap := hP
  have hin1 : ∀ w ∈ wsX00, w ∈ wsX0_init := by decide +kernel
  have hl := lv_entry ([.ref h0]) (n := 2) (Nat.le_of_ble_eq_true rfl)
  rw [lg_entry_eq]
  generalize (lg_sl ([.ref h0]) ++ List.replicate (2 - (lg_sl ([.ref h0])).length) Slot.unset).toArray = ls at hl ⊢
  have hl : lv_has ls 2 [(0, .ref h0)] := hl
  refine lv_aload_n hx hb dX0_init_0 rfl (lv_at hl 0 rfl) ?_
  refine W.objInit hx hb hown (hw_ hts 1 rfl) (hw_ hts 2 rfl) (hw_ hts 3 rfl) rfl (by rw [hml]; exact hl.1) rfl dX0_init_1 (Nat.le_of_ble_eq_true rfl) (Nat.le_of_ble_eq_true rfl) ?_
  refine W.eq (g2 := F0 m 4 ls []) rfl ?_
  refine lv_aload_n hx hb dX0_init_4 rfl (lv_at hl 0 rfl) ?_
  refine lv_bipush (v := (6 : Int32)) hx hb dX0_init_5 (by decide) ?_
  refine va_newq (C := RX5) (n := (6 : Int32)) (N' := 6) hx hb hown (hw_ hts 4 rfl) hAO hK hP hD hS hA (by decide) rfl (Nat.le_of_ble_eq_true rfl) (Nat.le_of_ble_eq_true rfl) (Nat.le_of_ble_eq_true rfl) dX0_init_7 (fun q1 cA H1 hK1 hP hD hS => ?_)
  have e1 := ty_eq 2 hK1 rfl
  rw [e1] at hP hD
  clear hK1 e1
  have hP : va_P (dC, dI) vwCl ([(h0, .inr (0, [.null, .int 0, .int 0])), (q1, .inl (cS, 6, .inr (.inr (.inr (.inr (fun _ => none))))))]) H1 := hP
  have hD : va_D A ([(h0, .inr (0, [.null, .int 0, .int 0])), (q1, .inl (cS, 6, .inr (.inr (.inr (.inr (fun _ => none))))))]) := hD
  refine va_putF (D := (dC, dI)) (ci := 0) (v := .ref q1) (ty := tyX0 0) (C := RX0) (T := TX0) (N := 3) hx hb hts hin1 tyX0 tyX0_ok nmX0 hown hK hP hD hS 0 rfl rfl 0 (by decide) (hw_ hts 5 rfl) (fun _ h9 => h9) rfl hin rfl (tyX0_ok 0 (by decide)) rfl rfl (Nat.le_of_ble_eq_true rfl) dX0_init_10 (fun H2 locs hP hD hS => ?_)
  have hP : va_P (dC, dI) vwCl ([(h0, .inr (0, [.ref q1, .int 0, .int 0])), (q1, .inl (cS, 6, .inr (.inr (.inr (.inr (fun _ => none))))))]) H2 := hP
  have hD : va_D A ([(h0, .inr (0, [.ref q1, .int 0, .int 0])), (q1, .inl (cS, 6, .inr (.inr (.inr (.inr (fun _ => none))))))]) := hD
  refine lv_iconst (v := (0 : Int32)) hx hb dX0_init_13 (by decide) ?_
  refine lv_istore_n (lv' := [(1, .int (0 : Int32)), (0, .ref h0)]) hx hb dX0_init_14 rfl hl (by decide) rfl (fun ls hl => ?_)
  refine lv_iload_n hx hb dX0_init_15 rfl (lv_at hl 0 rfl) ?_
  refine lv_bipush (v := (6 : Int32)) hx hb dX0_init_16 (by decide) ?_
  refine lv_icmp_ge (tgt := 40) hx hb dX0_init_18 (by decide) (fun q => absurd q (by decide)) (fun _ => ?_)
  refine lv_aload_n hx hb dX0_init_21 rfl (lv_at hl 1 rfl) ?_
  refine va_get (D := (dC, dI)) (ci := 0) (v := .ref q1) (C := RX0) (T := TX0) (N := 3) hx hb hts hin1 hown hK hP 0 rfl rfl 0 (by decide) (hw_ hts 5 rfl) (fun _ h9 => h9) rfl dX0_init_22 ?_
  refine lv_iload_n hx hb dX0_init_25 rfl (lv_at hl 0 rfl) ?_
  have hiw5 : ∀ w ∈ wsX50, w ∈ wsX0_init := by decide +kernel
  refine va_new (ci := 5) (fs := [.int 0, .null, .null, .null, .null, .null, .null, .int 0, .null, .null, .null, .null]) (C := RX5) (T := TX5) (N := 12) hx hb hts hiw5 tyX5 tyX5_ok hown (hw_ hts 4 rfl) (hw_ hts 6 rfl) (hw_ hts 7 rfl) hK hP hD hS hA rfl (fun j hj => dfl5 j hj) (Nat.le_of_ble_eq_true rfl) (Nat.le_of_ble_eq_true rfl) dX0_init_26 (fun o2 H3 hP hD hS => ?_)
  have hP : va_P (dC, dI) vwCl ([(h0, .inr (0, [.ref q1, .int 0, .int 0])), (q1, .inl (cS, 6, .inr (.inr (.inr (.inr (fun _ => none)))))), (o2, .inr (5, [.int 0, .null, .null, .null, .null, .null, .null, .int 0, .null, .null, .null, .null]))]) H3 := hP
  have hD : va_D A ([(h0, .inr (0, [.ref q1, .int 0, .int 0])), (q1, .inl (cS, 6, .inr (.inr (.inr (.inr (fun _ => none)))))), (o2, .inr (5, [.int 0, .null, .null, .null, .null, .null, .null, .int 0, .null, .null, .null, .null]))]) := hD
  refine lv_dup hx hb dX0_init_29 rfl ?_
  have hF := va_free (wc := [(o2, .inr (5, [.int 0, .null, .null, .null, .null, .null, .null, .int 0, .null, .null, .null, .null]))]) hD hS hA [2] rfl
  refine va_callv (va_runI (As := []) (rest := [.ref o2, .int (0 : Int32), .ref q1]) ⟨hx, hb, hml, hown, hts⟩ (met_X5_init l dC dI cI cZ cS o2 H3.size) (cwI 0 hts gX0_init_X5_init rfl rfl rfl (hw_ hts 7 rfl) (hw_ hts 10 rfl) (hw_ hts 11 rfl) rfl (by decide +kernel) ⟨(Nat.le_of_ble_eq_true rfl), (Nat.le_of_ble_eq_true rfl)⟩) (pS (wc := [(o2, .inr (5, [.int 0, .null, .null, .null, .null, .null, .null, .int 0, .null, .null, .null, .null]))]) hK hP hD hN [2] rfl (by decide)) rfl rfl hl.1 rfl (lv_room (Nat.le_of_ble_eq_true rfl)) dX0_init_30 ⟨(Nat.le_of_ble_eq_true rfl), (Nat.le_of_ble_eq_true rfl)⟩) hS (fun q _ h => hF q h) hF (fun u1 t H4 locs ht hvm hw hB hz1 hk1 hS => ?_)
  try dsimp only at hw hB
  obtain ⟨hP1, hD1⟩ := hB
  rw [ht] at hP1
  obtain ⟨hP9, hD9⟩ := va_join (wr := [(h0, .inr (0, [.ref q1, .int 0, .int 0])), (q1, .inl (cS, 6, .inr (.inr (.inr (.inr (fun _ => none))))))]) (w1 := wSt cI u1 S00) hP hD [2] [0, 1] rfl rfl (by decide) (by decide) hk1 hF hP1 hD1
  subst hw
  have hP : va_P (dC, dI) vwCl ([(h0, .inr (0, [.ref q1, .int 0, .int 0])), (q1, .inl (cS, 6, .inr (.inr (.inr (.inr (fun _ => none))))))] ++ (wSt cI u1 S00)) H4 := hP9
  have hD : va_D A ([(h0, .inr (0, [.ref q1, .int 0, .int 0])), (q1, .inl (cS, 6, .inr (.inr (.inr (.inr (fun _ => none))))))] ++ (wSt cI u1 S00)) := hD9
  refine va_astq (ci := 5) (r := (RX5, TX5, 12)) hx hb hK hP hD hS 1 2 2 rfl rfl rfl rfl (by unfold vp_in; decide) dX0_init_33 (fun H5 locs hP hD hS => ?_)
  have hP : va_P (dC, dI) vwCl ([(h0, .inr (0, [.ref q1, .int 0, .int 0])), (q1, .inl (cS, 6, .inr (.inr (.inr (.inr (va_up (fun _ => none) 0 (some (u1 0))))))))] ++ (wSt cI u1 S00)) H5 := hP
  have hD : va_D A ([(h0, .inr (0, [.ref q1, .int 0, .int 0])), (q1, .inl (cS, 6, .inr (.inr (.inr (.inr (va_up (fun _ => none) 0 (some (u1 0))))))))] ++ (wSt cI u1 S00)) := hD
  refine lv_iinc (v := (1 : Int32)) (lv' := [(1, .int (1 : Int32)), (0, .ref h0)]) hx hb dX0_init_34 hl (k := 0) rfl (by decide) (by decide) rfl (fun ls hl => ?_)
  refine lv_goto (tgt := 15) hx hb dX0_init_37 (by decide) ?_
  refine lv_iload_n hx hb dX0_init_15 rfl (lv_at hl 0 rfl) ?_
  refine lv_bipush (v := (6 : Int32)) hx hb dX0_init_16 (by decide) ?_
  refine lv_icmp_ge (tgt := 40) hx hb dX0_init_18 (by decide) (fun q => absurd q (by decide)) (fun _ => ?_)
  refine lv_aload_n hx hb dX0_init_21 rfl (lv_at hl 1 rfl) ?_
  refine va_get (D := (dC, dI)) (ci := 0) (v := .ref q1) (C := RX0) (T := TX0) (N := 3) hx hb hts hin1 hown hK hP 0 rfl rfl 0 (by decide) (hw_ hts 5 rfl) (fun _ h9 => h9) rfl dX0_init_22 ?_
  refine lv_iload_n hx hb dX0_init_25 rfl (lv_at hl 0 rfl) ?_
  have hiw5 : ∀ w ∈ wsX50, w ∈ wsX0_init := by decide +kernel
  refine va_new (ci := 5) (fs := [.int 0, .null, .null, .null, .null, .null, .null, .int 0, .null, .null, .null, .null]) (C := RX5) (T := TX5) (N := 12) hx hb hts hiw5 tyX5 tyX5_ok hown (hw_ hts 4 rfl) (hw_ hts 6 rfl) (hw_ hts 7 rfl) hK hP hD hS hA rfl (fun j hj => dfl5 j hj) (Nat.le_of_ble_eq_true rfl) (Nat.le_of_ble_eq_true rfl) dX0_init_26 (fun o3 H6 hP hD hS => ?_)
  have hP : va_P (dC, dI) vwCl ([(h0, .inr (0, [.ref q1, .int 0, .int 0])), (q1, .inl (cS, 6, .inr (.inr (.inr (.inr (va_up (fun _ => none) 0 (some (u1 0))))))))] ++ (wSt cI u1 S00 ++ ([(o3, .inr (5, [.int 0, .null, .null, .null, .null, .null, .null, .int 0, .null, .null, .null, .null]))]))) H6 := hP
  have hD : va_D A ([(h0, .inr (0, [.ref q1, .int 0, .int 0])), (q1, .inl (cS, 6, .inr (.inr (.inr (.inr (va_up (fun _ => none) 0 (some (u1 0))))))))] ++ (wSt cI u1 S00 ++ ([(o3, .inr (5, [.int 0, .null, .null, .null, .null, .null, .null, .int 0, .null, .null, .null, .null]))]))) := hD
  refine lv_dup hx hb dX0_init_29 rfl ?_
  have hF := va_free (wc := [(o3, .inr (5, [.int 0, .null, .null, .null, .null, .null, .null, .int 0, .null, .null, .null, .null]))]) hD hS hA [13] rfl
  refine va_callv (va_runI (As := []) (rest := [.ref o3, .int (1 : Int32), .ref q1]) ⟨hx, hb, hml, hown, hts⟩ (met_X5_init l dC dI cI cZ cS o3 H6.size) (cwI 0 hts gX0_init_X5_init rfl rfl rfl (hw_ hts 7 rfl) (hw_ hts 10 rfl) (hw_ hts 11 rfl) rfl (by decide +kernel) ⟨(Nat.le_of_ble_eq_true rfl), (Nat.le_of_ble_eq_true rfl)⟩) (pS (wc := [(o3, .inr (5, [.int 0, .null, .null, .null, .null, .null, .null, .int 0, .null, .null, .null, .null]))]) hK hP hD hN [13] rfl (by decide)) rfl rfl hl.1 rfl (lv_room (Nat.le_of_ble_eq_true rfl)) dX0_init_30 ⟨(Nat.le_of_ble_eq_true rfl), (Nat.le_of_ble_eq_true rfl)⟩) hS (fun q _ h => hF q h) hF (fun u2 t H7 locs ht hvm hw hB hz1 hk1 hS => ?_)
  try dsimp only at hw hB
  obtain ⟨hP1, hD1⟩ := hB
  rw [ht] at hP1
  obtain ⟨hP9, hD9⟩ := va_join (wr := [(h0, .inr (0, [.ref q1, .int 0, .int 0])), (q1, .inl (cS, 6, .inr (.inr (.inr (.inr (va_up (fun _ => none) 0 (some (u1 0))))))))] ++ (wSt cI u1 S00)) (w1 := wSt cI u2 S00) hP hD [13] [0, 1, 2, 3, 4, 5, 6, 7, 8, 9, 10, 11, 12] rfl rfl (by decide) (by decide) hk1 hF hP1 hD1
  subst hw
  have hP : va_P (dC, dI) vwCl ([(h0, .inr (0, [.ref q1, .int 0, .int 0])), (q1, .inl (cS, 6, .inr (.inr (.inr (.inr (va_up (fun _ => none) 0 (some (u1 0))))))))] ++ (wSt cI u1 S00 ++ (wSt cI u2 S00))) H7 := hP9
  have hD : va_D A ([(h0, .inr (0, [.ref q1, .int 0, .int 0])), (q1, .inl (cS, 6, .inr (.inr (.inr (.inr (va_up (fun _ => none) 0 (some (u1 0))))))))] ++ (wSt cI u1 S00 ++ (wSt cI u2 S00))) := hD9
  refine va_astq (ci := 5) (r := (RX5, TX5, 12)) hx hb hK hP hD hS 1 2 13 rfl rfl rfl rfl (by unfold vp_in; decide) dX0_init_33 (fun H8 locs hP hD hS => ?_)
  have hP : va_P (dC, dI) vwCl ([(h0, .inr (0, [.ref q1, .int 0, .int 0])), (q1, .inl (cS, 6, .inr (.inr (.inr (.inr (va_up (va_up (fun _ => none) 0 (some (u1 0))) 1 (some (u2 0))))))))] ++ (wSt cI u1 S00 ++ (wSt cI u2 S00))) H8 := hP
  have hD : va_D A ([(h0, .inr (0, [.ref q1, .int 0, .int 0])), (q1, .inl (cS, 6, .inr (.inr (.inr (.inr (va_up (va_up (fun _ => none) 0 (some (u1 0))) 1 (some (u2 0))))))))] ++ (wSt cI u1 S00 ++ (wSt cI u2 S00))) := hD
  refine lv_iinc (v := (2 : Int32)) (lv' := [(1, .int (2 : Int32)), (0, .ref h0)]) hx hb dX0_init_34 hl (k := 0) rfl (by decide) (by decide) rfl (fun ls hl => ?_)
  refine lv_goto (tgt := 15) hx hb dX0_init_37 (by decide) ?_
  refine lv_iload_n hx hb dX0_init_15 rfl (lv_at hl 0 rfl) ?_
  refine lv_bipush (v := (6 : Int32)) hx hb dX0_init_16 (by decide) ?_
  refine lv_icmp_ge (tgt := 40) hx hb dX0_init_18 (by decide) (fun q => absurd q (by decide)) (fun _ => ?_)
  refine lv_aload_n hx hb dX0_init_21 rfl (lv_at hl 1 rfl) ?_
  refine va_get (D := (dC, dI)) (ci := 0) (v := .ref q1) (C := RX0) (T := TX0) (N := 3) hx hb hts hin1 hown hK hP 0 rfl rfl 0 (by decide) (hw_ hts 5 rfl) (fun _ h9 => h9) rfl dX0_init_22 ?_
  refine lv_iload_n hx hb dX0_init_25 rfl (lv_at hl 0 rfl) ?_
  have hiw5 : ∀ w ∈ wsX50, w ∈ wsX0_init := by decide +kernel
  refine va_new (ci := 5) (fs := [.int 0, .null, .null, .null, .null, .null, .null, .int 0, .null, .null, .null, .null]) (C := RX5) (T := TX5) (N := 12) hx hb hts hiw5 tyX5 tyX5_ok hown (hw_ hts 4 rfl) (hw_ hts 6 rfl) (hw_ hts 7 rfl) hK hP hD hS hA rfl (fun j hj => dfl5 j hj) (Nat.le_of_ble_eq_true rfl) (Nat.le_of_ble_eq_true rfl) dX0_init_26 (fun o4 H9 hP hD hS => ?_)
  have hP : va_P (dC, dI) vwCl ([(h0, .inr (0, [.ref q1, .int 0, .int 0])), (q1, .inl (cS, 6, .inr (.inr (.inr (.inr (va_up (va_up (fun _ => none) 0 (some (u1 0))) 1 (some (u2 0))))))))] ++ (wSt cI u1 S00 ++ (wSt cI u2 S00 ++ ([(o4, .inr (5, [.int 0, .null, .null, .null, .null, .null, .null, .int 0, .null, .null, .null, .null]))])))) H9 := hP
  have hD : va_D A ([(h0, .inr (0, [.ref q1, .int 0, .int 0])), (q1, .inl (cS, 6, .inr (.inr (.inr (.inr (va_up (va_up (fun _ => none) 0 (some (u1 0))) 1 (some (u2 0))))))))] ++ (wSt cI u1 S00 ++ (wSt cI u2 S00 ++ ([(o4, .inr (5, [.int 0, .null, .null, .null, .null, .null, .null, .int 0, .null, .null, .null, .null]))])))) := hD
  refine lv_dup hx hb dX0_init_29 rfl ?_
  have hF := va_free (wc := [(o4, .inr (5, [.int 0, .null, .null, .null, .null, .null, .null, .int 0, .null, .null, .null, .null]))]) hD hS hA [24] rfl
  refine va_callv (va_runI (As := []) (rest := [.ref o4, .int (2 : Int32), .ref q1]) ⟨hx, hb, hml, hown, hts⟩ (met_X5_init l dC dI cI cZ cS o4 H9.size) (cwI 0 hts gX0_init_X5_init rfl rfl rfl (hw_ hts 7 rfl) (hw_ hts 10 rfl) (hw_ hts 11 rfl) rfl (by decide +kernel) ⟨(Nat.le_of_ble_eq_true rfl), (Nat.le_of_ble_eq_true rfl)⟩) (pS (wc := [(o4, .inr (5, [.int 0, .null, .null, .null, .null, .null, .null, .int 0, .null, .null, .null, .null]))]) hK hP hD hN [24] rfl (by decide)) rfl rfl hl.1 rfl (lv_room (Nat.le_of_ble_eq_true rfl)) dX0_init_30 ⟨(Nat.le_of_ble_eq_true rfl), (Nat.le_of_ble_eq_true rfl)⟩) hS (fun q _ h => hF q h) hF (fun u3 t H10 locs ht hvm hw hB hz1 hk1 hS => ?_)
  try dsimp only at hw hB
  obtain ⟨hP1, hD1⟩ := hB
  rw [ht] at hP1
  obtain ⟨hP9, hD9⟩ := va_join (wr := [(h0, .inr (0, [.ref q1, .int 0, .int 0])), (q1, .inl (cS, 6, .inr (.inr (.inr (.inr (va_up (va_up (fun _ => none) 0 (some (u1 0))) 1 (some (u2 0))))))))] ++ (wSt cI u1 S00 ++ (wSt cI u2 S00))) (w1 := wSt cI u3 S00) hP hD [24] [0, 1, 2, 3, 4, 5, 6, 7, 8, 9, 10, 11, 12, 13, 14, 15, 16, 17, 18, 19, 20, 21, 22, 23] rfl rfl (by decide) (by decide) hk1 hF hP1 hD1
  subst hw
  have hP : va_P (dC, dI) vwCl ([(h0, .inr (0, [.ref q1, .int 0, .int 0])), (q1, .inl (cS, 6, .inr (.inr (.inr (.inr (va_up (va_up (fun _ => none) 0 (some (u1 0))) 1 (some (u2 0))))))))] ++ (wSt cI u1 S00 ++ (wSt cI u2 S00 ++ (wSt cI u3 S00)))) H10 := hP9
  have hD : va_D A ([(h0, .inr (0, [.ref q1, .int 0, .int 0])), (q1, .inl (cS, 6, .inr (.inr (.inr (.inr (va_up (va_up (fun _ => none) 0 (some (u1 0))) 1 (some (u2 0))))))))] ++ (wSt cI u1 S00 ++ (wSt cI u2 S00 ++ (wSt cI u3 S00)))) := hD9
  refine va_astq (ci := 5) (r := (RX5, TX5, 12)) hx hb hK hP hD hS 1 2 24 rfl rfl rfl rfl (by unfold vp_in; decide) dX0_init_33 (fun H11 locs hP hD hS => ?_)
  have hP : va_P (dC, dI) vwCl ([(h0, .inr (0, [.ref q1, .int 0, .int 0])), (q1, .inl (cS, 6, .inr (.inr (.inr (.inr (va_up (va_up (va_up (fun _ => none) 0 (some (u1 0))) 1 (some (u2 0))) 2 (some (u3 0))))))))] ++ (wSt cI u1 S00 ++ (wSt cI u2 S00 ++ (wSt cI u3 S00)))) H11 := hP
  have hD : va_D A ([(h0, .inr (0, [.ref q1, .int 0, .int 0])), (q1, .inl (cS, 6, .inr (.inr (.inr (.inr (va_up (va_up (va_up (fun _ => none) 0 (some (u1 0))) 1 (some (u2 0))) 2 (some (u3 0))))))))] ++ (wSt cI u1 S00 ++ (wSt cI u2 S00 ++ (wSt cI u3 S00)))) := hD
  refine lv_iinc (v := (3 : Int32)) (lv' := [(1, .int (3 : Int32)), (0, .ref h0)]) hx hb dX0_init_34 hl (k := 0) rfl (by decide) (by decide) rfl (fun ls hl => ?_)
  refine lv_goto (tgt := 15) hx hb dX0_init_37 (by decide) ?_
  refine lv_iload_n hx hb dX0_init_15 rfl (lv_at hl 0 rfl) ?_
  refine lv_bipush (v := (6 : Int32)) hx hb dX0_init_16 (by decide) ?_
  refine lv_icmp_ge (tgt := 40) hx hb dX0_init_18 (by decide) (fun q => absurd q (by decide)) (fun _ => ?_)
  refine lv_aload_n hx hb dX0_init_21 rfl (lv_at hl 1 rfl) ?_
  refine va_get (D := (dC, dI)) (ci := 0) (v := .ref q1) (C := RX0) (T := TX0) (N := 3) hx hb hts hin1 hown hK hP 0 rfl rfl 0 (by decide) (hw_ hts 5 rfl) (fun _ h9 => h9) rfl dX0_init_22 ?_
  refine lv_iload_n hx hb dX0_init_25 rfl (lv_at hl 0 rfl) ?_
  have hiw5 : ∀ w ∈ wsX50, w ∈ wsX0_init := by decide +kernel
  refine va_new (ci := 5) (fs := [.int 0, .null, .null, .null, .null, .null, .null, .int 0, .null, .null, .null, .null]) (C := RX5) (T := TX5) (N := 12) hx hb hts hiw5 tyX5 tyX5_ok hown (hw_ hts 4 rfl) (hw_ hts 6 rfl) (hw_ hts 7 rfl) hK hP hD hS hA rfl (fun j hj => dfl5 j hj) (Nat.le_of_ble_eq_true rfl) (Nat.le_of_ble_eq_true rfl) dX0_init_26 (fun o5 H12 hP hD hS => ?_)
  have hP : va_P (dC, dI) vwCl ([(h0, .inr (0, [.ref q1, .int 0, .int 0])), (q1, .inl (cS, 6, .inr (.inr (.inr (.inr (va_up (va_up (va_up (fun _ => none) 0 (some (u1 0))) 1 (some (u2 0))) 2 (some (u3 0))))))))] ++ (wSt cI u1 S00 ++ (wSt cI u2 S00 ++ (wSt cI u3 S00 ++ ([(o5, .inr (5, [.int 0, .null, .null, .null, .null, .null, .null, .int 0, .null, .null, .null, .null]))]))))) H12 := hP
  have hD : va_D A ([(h0, .inr (0, [.ref q1, .int 0, .int 0])), (q1, .inl (cS, 6, .inr (.inr (.inr (.inr (va_up (va_up (va_up (fun _ => none) 0 (some (u1 0))) 1 (some (u2 0))) 2 (some (u3 0))))))))] ++ (wSt cI u1 S00 ++ (wSt cI u2 S00 ++ (wSt cI u3 S00 ++ ([(o5, .inr (5, [.int 0, .null, .null, .null, .null, .null, .null, .int 0, .null, .null, .null, .null]))]))))) := hD
  refine lv_dup hx hb dX0_init_29 rfl ?_
  have hF := va_free (wc := [(o5, .inr (5, [.int 0, .null, .null, .null, .null, .null, .null, .int 0, .null, .null, .null, .null]))]) hD hS hA [35] rfl
  refine va_callv (va_runI (As := []) (rest := [.ref o5, .int (3 : Int32), .ref q1]) ⟨hx, hb, hml, hown, hts⟩ (met_X5_init l dC dI cI cZ cS o5 H12.size) (cwI 0 hts gX0_init_X5_init rfl rfl rfl (hw_ hts 7 rfl) (hw_ hts 10 rfl) (hw_ hts 11 rfl) rfl (by decide +kernel) ⟨(Nat.le_of_ble_eq_true rfl), (Nat.le_of_ble_eq_true rfl)⟩) (pS (wc := [(o5, .inr (5, [.int 0, .null, .null, .null, .null, .null, .null, .int 0, .null, .null, .null, .null]))]) hK hP hD hN [35] rfl (by decide)) rfl rfl hl.1 rfl (lv_room (Nat.le_of_ble_eq_true rfl)) dX0_init_30 ⟨(Nat.le_of_ble_eq_true rfl), (Nat.le_of_ble_eq_true rfl)⟩) hS (fun q _ h => hF q h) hF (fun u4 t H13 locs ht hvm hw hB hz1 hk1 hS => ?_)
  try dsimp only at hw hB
  obtain ⟨hP1, hD1⟩ := hB
  rw [ht] at hP1
  obtain ⟨hP9, hD9⟩ := va_join (wr := [(h0, .inr (0, [.ref q1, .int 0, .int 0])), (q1, .inl (cS, 6, .inr (.inr (.inr (.inr (va_up (va_up (va_up (fun _ => none) 0 (some (u1 0))) 1 (some (u2 0))) 2 (some (u3 0))))))))] ++ (wSt cI u1 S00 ++ (wSt cI u2 S00 ++ (wSt cI u3 S00)))) (w1 := wSt cI u4 S00) hP hD [35] [0, 1, 2, 3, 4, 5, 6, 7, 8, 9, 10, 11, 12, 13, 14, 15, 16, 17, 18, 19, 20, 21, 22, 23, 24, 25, 26, 27, 28, 29, 30, 31, 32, 33, 34] rfl rfl (by decide) (by decide) hk1 hF hP1 hD1
  subst hw
  have hP : va_P (dC, dI) vwCl ([(h0, .inr (0, [.ref q1, .int 0, .int 0])), (q1, .inl (cS, 6, .inr (.inr (.inr (.inr (va_up (va_up (va_up (fun _ => none) 0 (some (u1 0))) 1 (some (u2 0))) 2 (some (u3 0))))))))] ++ (wSt cI u1 S00 ++ (wSt cI u2 S00 ++ (wSt cI u3 S00 ++ (wSt cI u4 S00))))) H13 := hP9
  have hD : va_D A ([(h0, .inr (0, [.ref q1, .int 0, .int 0])), (q1, .inl (cS, 6, .inr (.inr (.inr (.inr (va_up (va_up (va_up (fun _ => none) 0 (some (u1 0))) 1 (some (u2 0))) 2 (some (u3 0))))))))] ++ (wSt cI u1 S00 ++ (wSt cI u2 S00 ++ (wSt cI u3 S00 ++ (wSt cI u4 S00))))) := hD9
  refine va_astq (ci := 5) (r := (RX5, TX5, 12)) hx hb hK hP hD hS 1 2 35 rfl rfl rfl rfl (by unfold vp_in; decide) dX0_init_33 (fun H14 locs hP hD hS => ?_)
  have hP : va_P (dC, dI) vwCl ([(h0, .inr (0, [.ref q1, .int 0, .int 0])), (q1, .inl (cS, 6, .inr (.inr (.inr (.inr (va_up (va_up (va_up (va_up (fun _ => none) 0 (some (u1 0))) 1 (some (u2 0))) 2 (some (u3 0))) 3 (some (u4 0))))))))] ++ (wSt cI u1 S00 ++ (wSt cI u2 S00 ++ (wSt cI u3 S00 ++ (wSt cI u4 S00))))) H14 := hP
  have hD : va_D A ([(h0, .inr (0, [.ref q1, .int 0, .int 0])), (q1, .inl (cS, 6, .inr (.inr (.inr (.inr (va_up (va_up (va_up (va_up (fun _ => none) 0 (some (u1 0))) 1 (some (u2 0))) 2 (some (u3 0))) 3 (some (u4 0))))))))] ++ (wSt cI u1 S00 ++ (wSt cI u2 S00 ++ (wSt cI u3 S00 ++ (wSt cI u4 S00))))) := hD
  refine lv_iinc (v := (4 : Int32)) (lv' := [(1, .int (4 : Int32)), (0, .ref h0)]) hx hb dX0_init_34 hl (k := 0) rfl (by decide) (by decide) rfl (fun ls hl => ?_)
  refine lv_goto (tgt := 15) hx hb dX0_init_37 (by decide) ?_
  refine lv_iload_n hx hb dX0_init_15 rfl (lv_at hl 0 rfl) ?_
  refine lv_bipush (v := (6 : Int32)) hx hb dX0_init_16 (by decide) ?_
  refine lv_icmp_ge (tgt := 40) hx hb dX0_init_18 (by decide) (fun q => absurd q (by decide)) (fun _ => ?_)
  refine lv_aload_n hx hb dX0_init_21 rfl (lv_at hl 1 rfl) ?_
  refine va_get (D := (dC, dI)) (ci := 0) (v := .ref q1) (C := RX0) (T := TX0) (N := 3) hx hb hts hin1 hown hK hP 0 rfl rfl 0 (by decide) (hw_ hts 5 rfl) (fun _ h9 => h9) rfl dX0_init_22 ?_
  refine lv_iload_n hx hb dX0_init_25 rfl (lv_at hl 0 rfl) ?_
  have hiw5 : ∀ w ∈ wsX50, w ∈ wsX0_init := by decide +kernel
  refine va_new (ci := 5) (fs := [.int 0, .null, .null, .null, .null, .null, .null, .int 0, .null, .null, .null, .null]) (C := RX5) (T := TX5) (N := 12) hx hb hts hiw5 tyX5 tyX5_ok hown (hw_ hts 4 rfl) (hw_ hts 6 rfl) (hw_ hts 7 rfl) hK hP hD hS hA rfl (fun j hj => dfl5 j hj) (Nat.le_of_ble_eq_true rfl) (Nat.le_of_ble_eq_true rfl) dX0_init_26 (fun o6 H15 hP hD hS => ?_)
  have hP : va_P (dC, dI) vwCl ([(h0, .inr (0, [.ref q1, .int 0, .int 0])), (q1, .inl (cS, 6, .inr (.inr (.inr (.inr (va_up (va_up (va_up (va_up (fun _ => none) 0 (some (u1 0))) 1 (some (u2 0))) 2 (some (u3 0))) 3 (some (u4 0))))))))] ++ (wSt cI u1 S00 ++ (wSt cI u2 S00 ++ (wSt cI u3 S00 ++ (wSt cI u4 S00 ++ ([(o6, .inr (5, [.int 0, .null, .null, .null, .null, .null, .null, .int 0, .null, .null, .null, .null]))])))))) H15 := hP
  have hD : va_D A ([(h0, .inr (0, [.ref q1, .int 0, .int 0])), (q1, .inl (cS, 6, .inr (.inr (.inr (.inr (va_up (va_up (va_up (va_up (fun _ => none) 0 (some (u1 0))) 1 (some (u2 0))) 2 (some (u3 0))) 3 (some (u4 0))))))))] ++ (wSt cI u1 S00 ++ (wSt cI u2 S00 ++ (wSt cI u3 S00 ++ (wSt cI u4 S00 ++ ([(o6, .inr (5, [.int 0, .null, .null, .null, .null, .null, .null, .int 0, .null, .null, .null, .null]))])))))) := hD
  refine lv_dup hx hb dX0_init_29 rfl ?_
  have hF := va_free (wc := [(o6, .inr (5, [.int 0, .null, .null, .null, .null, .null, .null, .int 0, .null, .null, .null, .null]))]) hD hS hA [46] rfl
  refine va_callv (va_runI (As := []) (rest := [.ref o6, .int (4 : Int32), .ref q1]) ⟨hx, hb, hml, hown, hts⟩ (met_X5_init l dC dI cI cZ cS o6 H15.size) (cwI 0 hts gX0_init_X5_init rfl rfl rfl (hw_ hts 7 rfl) (hw_ hts 10 rfl) (hw_ hts 11 rfl) rfl (by decide +kernel) ⟨(Nat.le_of_ble_eq_true rfl), (Nat.le_of_ble_eq_true rfl)⟩) (pS (wc := [(o6, .inr (5, [.int 0, .null, .null, .null, .null, .null, .null, .int 0, .null, .null, .null, .null]))]) hK hP hD hN [46] rfl (by decide)) rfl rfl hl.1 rfl (lv_room (Nat.le_of_ble_eq_true rfl)) dX0_init_30 ⟨(Nat.le_of_ble_eq_true rfl), (Nat.le_of_ble_eq_true rfl)⟩) hS (fun q _ h => hF q h) hF (fun u5 t H16 locs ht hvm hw hB hz1 hk1 hS => ?_)
  try dsimp only at hw hB
  obtain ⟨hP1, hD1⟩ := hB
  rw [ht] at hP1
  obtain ⟨hP9, hD9⟩ := va_join (wr := [(h0, .inr (0, [.ref q1, .int 0, .int 0])), (q1, .inl (cS, 6, .inr (.inr (.inr (.inr (va_up (va_up (va_up (va_up (fun _ => none) 0 (some (u1 0))) 1 (some (u2 0))) 2 (some (u3 0))) 3 (some (u4 0))))))))] ++ (wSt cI u1 S00 ++ (wSt cI u2 S00 ++ (wSt cI u3 S00 ++ (wSt cI u4 S00))))) (w1 := wSt cI u5 S00) hP hD [46] [0, 1, 2, 3, 4, 5, 6, 7, 8, 9, 10, 11, 12, 13, 14, 15, 16, 17, 18, 19, 20, 21, 22, 23, 24, 25, 26, 27, 28, 29, 30, 31, 32, 33, 34, 35, 36, 37, 38, 39, 40, 41, 42, 43, 44, 45] rfl rfl (by decide) (by decide) hk1 hF hP1 hD1
  subst hw
  have hP : va_P (dC, dI) vwCl ([(h0, .inr (0, [.ref q1, .int 0, .int 0])), (q1, .inl (cS, 6, .inr (.inr (.inr (.inr (va_up (va_up (va_up (va_up (fun _ => none) 0 (some (u1 0))) 1 (some (u2 0))) 2 (some (u3 0))) 3 (some (u4 0))))))))] ++ (wSt cI u1 S00 ++ (wSt cI u2 S00 ++ (wSt cI u3 S00 ++ (wSt cI u4 S00 ++ (wSt cI u5 S00)))))) H16 := hP9
  have hD : va_D A ([(h0, .inr (0, [.ref q1, .int 0, .int 0])), (q1, .inl (cS, 6, .inr (.inr (.inr (.inr (va_up (va_up (va_up (va_up (fun _ => none) 0 (some (u1 0))) 1 (some (u2 0))) 2 (some (u3 0))) 3 (some (u4 0))))))))] ++ (wSt cI u1 S00 ++ (wSt cI u2 S00 ++ (wSt cI u3 S00 ++ (wSt cI u4 S00 ++ (wSt cI u5 S00)))))) := hD9
  refine va_astq (ci := 5) (r := (RX5, TX5, 12)) hx hb hK hP hD hS 1 2 46 rfl rfl rfl rfl (by unfold vp_in; decide) dX0_init_33 (fun H17 locs hP hD hS => ?_)
  have hP : va_P (dC, dI) vwCl ([(h0, .inr (0, [.ref q1, .int 0, .int 0])), (q1, .inl (cS, 6, .inr (.inr (.inr (.inr (va_up (va_up (va_up (va_up (va_up (fun _ => none) 0 (some (u1 0))) 1 (some (u2 0))) 2 (some (u3 0))) 3 (some (u4 0))) 4 (some (u5 0))))))))] ++ (wSt cI u1 S00 ++ (wSt cI u2 S00 ++ (wSt cI u3 S00 ++ (wSt cI u4 S00 ++ (wSt cI u5 S00)))))) H17 := hP
  have hD : va_D A ([(h0, .inr (0, [.ref q1, .int 0, .int 0])), (q1, .inl (cS, 6, .inr (.inr (.inr (.inr (va_up (va_up (va_up (va_up (va_up (fun _ => none) 0 (some (u1 0))) 1 (some (u2 0))) 2 (some (u3 0))) 3 (some (u4 0))) 4 (some (u5 0))))))))] ++ (wSt cI u1 S00 ++ (wSt cI u2 S00 ++ (wSt cI u3 S00 ++ (wSt cI u4 S00 ++ (wSt cI u5 S00)))))) := hD
  refine lv_iinc (v := (5 : Int32)) (lv' := [(1, .int (5 : Int32)), (0, .ref h0)]) hx hb dX0_init_34 hl (k := 0) rfl (by decide) (by decide) rfl (fun ls hl => ?_)
  refine lv_goto (tgt := 15) hx hb dX0_init_37 (by decide) ?_
  refine lv_iload_n hx hb dX0_init_15 rfl (lv_at hl 0 rfl) ?_
  refine lv_bipush (v := (6 : Int32)) hx hb dX0_init_16 (by decide) ?_
  refine lv_icmp_ge (tgt := 40) hx hb dX0_init_18 (by decide) (fun q => absurd q (by decide)) (fun _ => ?_)
  refine lv_aload_n hx hb dX0_init_21 rfl (lv_at hl 1 rfl) ?_
  refine va_get (D := (dC, dI)) (ci := 0) (v := .ref q1) (C := RX0) (T := TX0) (N := 3) hx hb hts hin1 hown hK hP 0 rfl rfl 0 (by decide) (hw_ hts 5 rfl) (fun _ h9 => h9) rfl dX0_init_22 ?_
  refine lv_iload_n hx hb dX0_init_25 rfl (lv_at hl 0 rfl) ?_
  have hiw5 : ∀ w ∈ wsX50, w ∈ wsX0_init := by decide +kernel
  refine va_new (ci := 5) (fs := [.int 0, .null, .null, .null, .null, .null, .null, .int 0, .null, .null, .null, .null]) (C := RX5) (T := TX5) (N := 12) hx hb hts hiw5 tyX5 tyX5_ok hown (hw_ hts 4 rfl) (hw_ hts 6 rfl) (hw_ hts 7 rfl) hK hP hD hS hA rfl (fun j hj => dfl5 j hj) (Nat.le_of_ble_eq_true rfl) (Nat.le_of_ble_eq_true rfl) dX0_init_26 (fun o7 H18 hP hD hS => ?_)
  have hP : va_P (dC, dI) vwCl ([(h0, .inr (0, [.ref q1, .int 0, .int 0])), (q1, .inl (cS, 6, .inr (.inr (.inr (.inr (va_up (va_up (va_up (va_up (va_up (fun _ => none) 0 (some (u1 0))) 1 (some (u2 0))) 2 (some (u3 0))) 3 (some (u4 0))) 4 (some (u5 0))))))))] ++ (wSt cI u1 S00 ++ (wSt cI u2 S00 ++ (wSt cI u3 S00 ++ (wSt cI u4 S00 ++ (wSt cI u5 S00 ++ ([(o7, .inr (5, [.int 0, .null, .null, .null, .null, .null, .null, .int 0, .null, .null, .null, .null]))]))))))) H18 := hP
  have hD : va_D A ([(h0, .inr (0, [.ref q1, .int 0, .int 0])), (q1, .inl (cS, 6, .inr (.inr (.inr (.inr (va_up (va_up (va_up (va_up (va_up (fun _ => none) 0 (some (u1 0))) 1 (some (u2 0))) 2 (some (u3 0))) 3 (some (u4 0))) 4 (some (u5 0))))))))] ++ (wSt cI u1 S00 ++ (wSt cI u2 S00 ++ (wSt cI u3 S00 ++ (wSt cI u4 S00 ++ (wSt cI u5 S00 ++ ([(o7, .inr (5, [.int 0, .null, .null, .null, .null, .null, .null, .int 0, .null, .null, .null, .null]))]))))))) := hD
  refine lv_dup hx hb dX0_init_29 rfl ?_
  have hF := va_free (wc := [(o7, .inr (5, [.int 0, .null, .null, .null, .null, .null, .null, .int 0, .null, .null, .null, .null]))]) hD hS hA [57] rfl
  refine va_callv (va_runI (As := []) (rest := [.ref o7, .int (5 : Int32), .ref q1]) ⟨hx, hb, hml, hown, hts⟩ (met_X5_init l dC dI cI cZ cS o7 H18.size) (cwI 0 hts gX0_init_X5_init rfl rfl rfl (hw_ hts 7 rfl) (hw_ hts 10 rfl) (hw_ hts 11 rfl) rfl (by decide +kernel) ⟨(Nat.le_of_ble_eq_true rfl), (Nat.le_of_ble_eq_true rfl)⟩) (pS (wc := [(o7, .inr (5, [.int 0, .null, .null, .null, .null, .null, .null, .int 0, .null, .null, .null, .null]))]) hK hP hD hN [57] rfl (by decide)) rfl rfl hl.1 rfl (lv_room (Nat.le_of_ble_eq_true rfl)) dX0_init_30 ⟨(Nat.le_of_ble_eq_true rfl), (Nat.le_of_ble_eq_true rfl)⟩) hS (fun q _ h => hF q h) hF (fun u6 t H19 locs ht hvm hw hB hz1 hk1 hS => ?_)
  try dsimp only at hw hB
  obtain ⟨hP1, hD1⟩ := hB
  rw [ht] at hP1
  obtain ⟨hP9, hD9⟩ := va_join (wr := [(h0, .inr (0, [.ref q1, .int 0, .int 0])), (q1, .inl (cS, 6, .inr (.inr (.inr (.inr (va_up (va_up (va_up (va_up (va_up (fun _ => none) 0 (some (u1 0))) 1 (some (u2 0))) 2 (some (u3 0))) 3 (some (u4 0))) 4 (some (u5 0))))))))] ++ (wSt cI u1 S00 ++ (wSt cI u2 S00 ++ (wSt cI u3 S00 ++ (wSt cI u4 S00 ++ (wSt cI u5 S00)))))) (w1 := wSt cI u6 S00) hP hD [57] [0, 1, 2, 3, 4, 5, 6, 7, 8, 9, 10, 11, 12, 13, 14, 15, 16, 17, 18, 19, 20, 21, 22, 23, 24, 25, 26, 27, 28, 29, 30, 31, 32, 33, 34, 35, 36, 37, 38, 39, 40, 41, 42, 43, 44, 45, 46, 47, 48, 49, 50, 51, 52, 53, 54, 55, 56] rfl rfl (by decide) (by decide) hk1 hF hP1 hD1
  subst hw
  have hP : va_P (dC, dI) vwCl ([(h0, .inr (0, [.ref q1, .int 0, .int 0])), (q1, .inl (cS, 6, .inr (.inr (.inr (.inr (va_up (va_up (va_up (va_up (va_up (fun _ => none) 0 (some (u1 0))) 1 (some (u2 0))) 2 (some (u3 0))) 3 (some (u4 0))) 4 (some (u5 0))))))))] ++ (wSt cI u1 S00 ++ (wSt cI u2 S00 ++ (wSt cI u3 S00 ++ (wSt cI u4 S00 ++ (wSt cI u5 S00 ++ (wSt cI u6 S00))))))) H19 := hP9
  have hD : va_D A ([(h0, .inr (0, [.ref q1, .int 0, .int 0])), (q1, .inl (cS, 6, .inr (.inr (.inr (.inr (va_up (va_up (va_up (va_up (va_up (fun _ => none) 0 (some (u1 0))) 1 (some (u2 0))) 2 (some (u3 0))) 3 (some (u4 0))) 4 (some (u5 0))))))))] ++ (wSt cI u1 S00 ++ (wSt cI u2 S00 ++ (wSt cI u3 S00 ++ (wSt cI u4 S00 ++ (wSt cI u5 S00 ++ (wSt cI u6 S00))))))) := hD9
  refine va_astq (ci := 5) (r := (RX5, TX5, 12)) hx hb hK hP hD hS 1 2 57 rfl rfl rfl rfl (by unfold vp_in; decide) dX0_init_33 (fun H20 locs hP hD hS => ?_)
  have hP : va_P (dC, dI) vwCl ([(h0, .inr (0, [.ref q1, .int 0, .int 0])), (q1, .inl (cS, 6, .inr (.inr (.inr (.inr (va_up (va_up (va_up (va_up (va_up (va_up (fun _ => none) 0 (some (u1 0))) 1 (some (u2 0))) 2 (some (u3 0))) 3 (some (u4 0))) 4 (some (u5 0))) 5 (some (u6 0))))))))] ++ (wSt cI u1 S00 ++ (wSt cI u2 S00 ++ (wSt cI u3 S00 ++ (wSt cI u4 S00 ++ (wSt cI u5 S00 ++ (wSt cI u6 S00))))))) H20 := hP
  have hD : va_D A ([(h0, .inr (0, [.ref q1, .int 0, .int 0])), (q1, .inl (cS, 6, .inr (.inr (.inr (.inr (va_up (va_up (va_up (va_up (va_up (va_up (fun _ => none) 0 (some (u1 0))) 1 (some (u2 0))) 2 (some (u3 0))) 3 (some (u4 0))) 4 (some (u5 0))) 5 (some (u6 0))))))))] ++ (wSt cI u1 S00 ++ (wSt cI u2 S00 ++ (wSt cI u3 S00 ++ (wSt cI u4 S00 ++ (wSt cI u5 S00 ++ (wSt cI u6 S00))))))) := hD
  refine lv_iinc (v := (6 : Int32)) (lv' := [(1, .int (6 : Int32)), (0, .ref h0)]) hx hb dX0_init_34 hl (k := 0) rfl (by decide) (by decide) rfl (fun ls hl => ?_)
  refine lv_goto (tgt := 15) hx hb dX0_init_37 (by decide) ?_
  refine lv_iload_n hx hb dX0_init_15 rfl (lv_at hl 0 rfl) ?_
  refine lv_bipush (v := (6 : Int32)) hx hb dX0_init_16 (by decide) ?_
  refine lv_icmp_ge (tgt := 40) hx hb dX0_init_18 (by decide) (fun _ => ?_) (fun q => absurd (by decide) q)
  refine lv_aload_n hx hb dX0_init_40 rfl (lv_at hl 1 rfl) ?_
  refine lv_iconst (v := (0 : Int32)) hx hb dX0_init_41 (by decide) ?_
  refine va_put (D := (dC, dI)) (ci := 0) (v := .int (0 : Int32)) (ty := tyX0 1) (C := RX0) (T := TX0) (N := 3) hx hb hts hin1 tyX0 tyX0_ok nmX0 hown hK hP hD hS 0 rfl rfl 1 (by decide) (hw_ hts 8 rfl) (fun _ h9 => h9) rfl (tyX0_ok 1 (by decide)) rfl rfl (Nat.le_of_ble_eq_true rfl) dX0_init_42 (fun H21 locs hP hD hS => ?_)
  have hP : va_P (dC, dI) vwCl ([(h0, .inr (0, [.ref q1, .int (0 : Int32), .int 0])), (q1, .inl (cS, 6, .inr (.inr (.inr (.inr (va_up (va_up (va_up (va_up (va_up (va_up (fun _ => none) 0 (some (u1 0))) 1 (some (u2 0))) 2 (some (u3 0))) 3 (some (u4 0))) 4 (some (u5 0))) 5 (some (u6 0))))))))] ++ (wSt cI u1 S00 ++ (wSt cI u2 S00 ++ (wSt cI u3 S00 ++ (wSt cI u4 S00 ++ (wSt cI u5 S00 ++ (wSt cI u6 S00))))))) H21 := hP
  have hD : va_D A ([(h0, .inr (0, [.ref q1, .int (0 : Int32), .int 0])), (q1, .inl (cS, 6, .inr (.inr (.inr (.inr (va_up (va_up (va_up (va_up (va_up (va_up (fun _ => none) 0 (some (u1 0))) 1 (some (u2 0))) 2 (some (u3 0))) 3 (some (u4 0))) 4 (some (u5 0))) 5 (some (u6 0))))))))] ++ (wSt cI u1 S00 ++ (wSt cI u2 S00 ++ (wSt cI u3 S00 ++ (wSt cI u4 S00 ++ (wSt cI u5 S00 ++ (wSt cI u6 S00))))))) := hD
  refine lv_aload_n hx hb dX0_init_45 rfl (lv_at hl 1 rfl) ?_
  refine lv_iconst (v := (0 : Int32)) hx hb dX0_init_46 (by decide) ?_
  refine va_put (D := (dC, dI)) (ci := 0) (v := .int (0 : Int32)) (ty := tyX0 2) (C := RX0) (T := TX0) (N := 3) hx hb hts hin1 tyX0 tyX0_ok nmX0 hown hK hP hD hS 0 rfl rfl 2 (by decide) (hw_ hts 9 rfl) (fun _ h9 => h9) rfl (tyX0_ok 2 (by decide)) rfl rfl (Nat.le_of_ble_eq_true rfl) dX0_init_47 (fun H22 locs hP hD hS => ?_)
  have hP : va_P (dC, dI) vwCl ([(h0, .inr (0, [.ref q1, .int (0 : Int32), .int (0 : Int32)])), (q1, .inl (cS, 6, .inr (.inr (.inr (.inr (va_up (va_up (va_up (va_up (va_up (va_up (fun _ => none) 0 (some (u1 0))) 1 (some (u2 0))) 2 (some (u3 0))) 3 (some (u4 0))) 4 (some (u5 0))) 5 (some (u6 0))))))))] ++ (wSt cI u1 S00 ++ (wSt cI u2 S00 ++ (wSt cI u3 S00 ++ (wSt cI u4 S00 ++ (wSt cI u5 S00 ++ (wSt cI u6 S00))))))) H22 := hP
  have hD : va_D A ([(h0, .inr (0, [.ref q1, .int (0 : Int32), .int (0 : Int32)])), (q1, .inl (cS, 6, .inr (.inr (.inr (.inr (va_up (va_up (va_up (va_up (va_up (va_up (fun _ => none) 0 (some (u1 0))) 1 (some (u2 0))) 2 (some (u3 0))) 3 (some (u4 0))) 4 (some (u5 0))) 5 (some (u6 0))))))))] ++ (wSt cI u1 S00 ++ (wSt cI u2 S00 ++ (wSt cI u3 S00 ++ (wSt cI u4 S00 ++ (wSt cI u5 S00 ++ (wSt cI u6 S00))))))) := hD
  have hP := P_ref (ws' := wHi cS (adr [h0, q1]) (ahs u1 u2 u3 u4 u5 u6) P00 ++ wZs cI (ahs u1 u2 u3 u4 u5 u6) (fun _ => S00)) 1 rfl (g := fun i => some ((ahs u1 u2 u3 u4 u5 u6) i 0)) (fun i hi => by rcases (show i = 0 ∨ i = 1 ∨ i = 2 ∨ i = 3 ∨ i = 4 ∨ i = 5 by omega) with rfl | rfl | rfl | rfl | rfl | rfl <;> rfl) rfl hP
  have hD := D_addr (w1 := wHi cS (adr [h0, q1]) (ahs u1 u2 u3 u4 u5 u6) P00 ++ wZs cI (ahs u1 u2 u3 u4 u5 u6) (fun _ => S00)) hD rfl
  refine W.widen (k := 67) (n := 1104) (Nat.le_of_ble_eq_true rfl) (Nat.le_of_ble_eq_true rfl) ?_
  exact W.vret hx hb hr (fun t ht hW => ⟨⟨(adr [h0, q1], (ahs u1 u2 u3 u4 u5 u6)), rfl, rfl, by rw [ht]; exact hP, hD⟩, hS.F ht⟩) hS.2.2 dX0_init_50
