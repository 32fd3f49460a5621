abbrev rm_X6_init : Room := { frames := 3, cells := 99, slots := 1879, locals := 64 }
abbrev q_X6_init (dC : Nat → ClassId) (dI : Nat → Nat → Nat) (cI cZ cS : ClassId) (h0 : Nat) (A : Nat → Prop) : Array Value → State → Outcome → State → Prop := va_Qv (fun (u : (Nat → Nat) × (Nat → Nat) × (Nat → Nat) × (Nat → Nat) × (Nat → Nat) × (Nat → Nat) × (Nat → Nat → Nat) × (Nat → Nat) × (Nat → Nat)) => u.1 0 = h0) (fun u t => va_P (dC, dI) vwCl (FW cI cZ cS u.1 u.2.1 u.2.2.1 u.2.2.2.1 u.2.2.2.2.1 u.2.2.2.2.2.1 u.2.2.2.2.2.2.1 u.2.2.2.2.2.2.2.1 u.2.2.2.2.2.2.2.2) t.heap ∧ va_D A (FW cI cZ cS u.1 u.2.1 u.2.2.1 u.2.2.2.1 u.2.2.2.2.1 u.2.2.2.2.2.1 u.2.2.2.2.2.2.1 u.2.2.2.2.2.2.2.1 u.2.2.2.2.2.2.2.2)) A
set_option maxHeartbeats 4000000 in
set_option maxRecDepth 100000 in
theorem met_X6_init (l : Launch) (dC : Nat → ClassId) (dI : Nat → Nat → Nat) (cI cZ cS : ClassId) (h0 : Nat) (sz : Nat) : Met l yX6_init wsX6_init rm_X6_init (va_Pc [.ref h0] (pWO (dC, dI) (tyS cI cZ cS) ([(h0, .inr (6, [.null, .null, .null, .null, .null, .null, .null]))]) sz)) (q_X6_init dC dI cI cZ cS h0 (va_A ([(h0, .inr (6, [.null, .null, .null, .null, .null, .null, .null]))]) sz)) 99 1879 (va_A ([(h0, .inr (6, [.null, .null, .null, .null, .null, .null, .null]))]) sz) := by
  refine Met.ofW (cc := cX6_init) (maxL := 1) (ret := none) (by decide) rfl ?_
  intro p e s m args below meth c s₁ B hml hv
  obtain ⟨rfl, ⟨hsz, hP, hK, hD0, hN⟩, hAO⟩ := hv
  have hx := B.exec
  have hb := B.bytes
  have hr := B.returns
  have hts := atoms_spec (ws := wsX6_init) B.pre
  have hown : s.vm.findClass RX6 = some m.cls := findClass_of_methodNamed B.named
  have hlocks := B.notSynchronized
  have hin : meth.name = "<init>" := (name_of_methodNamed B.named B.method).1
  subst hsz
  have hD := hD0.self (sz := s.heap.size)
  generalize hAe : va_A ([(h0, .inr (6, [.null, .null, .null, .null, .null, .null, .null]))]) s.heap.size = A at hD ⊢
  have hA : ∀ q : Nat, s.heap.size ≤ q → A q := fun q h => by rw [← hAe]; exact Or.inr h
  have hS : va_S A s.heap s.heap [] := va_S.rf
  have hP : va_P (dC, dI) vwCl ([(h0, .inr (6, [.null, .null, .null, .null, .null, .null, .null]))]) s.heap := hP
  have hin1 : ∀ w ∈ wsX60, w ∈ wsX6_init := by decide +kernel
  have hl := lv_entry ([.ref h0]) (n := 1) (Nat.le_of_ble_eq_true rfl)
  rw [lg_entry_eq]
  generalize (lg_sl ([.ref h0]) ++ List.replicate (1 - (lg_sl ([.ref h0])).length) Slot.unset).toArray = ls at hl ⊢
  have hl : lv_has ls 1 [(0, .ref h0)] := hl
  refine lv_aload_n hx hb dX6_init_0 rfl (lv_at hl 0 rfl) ?_
  refine W.objInit hx hb hown (hw_ hts 1 rfl) (hw_ hts 2 rfl) (hw_ hts 3 rfl) rfl (by rw [hml]; exact hl.1) rfl dX6_init_1 (Nat.le_of_ble_eq_true rfl) (Nat.le_of_ble_eq_true rfl) ?_
  refine W.eq (g2 := F0 m 4 ls []) rfl ?_
  refine lv_aload_n hx hb dX6_init_4 rfl (lv_at hl 0 rfl) ?_
  have hiw5 : ∀ w ∈ wsX50, w ∈ wsX6_init := by decide +kernel
  refine va_new (ci := 5) (fs := [.int 0, .null, .null, .null, .null, .null, .null, .int 0, .null, .null, .null, .null]) (C := RX5) (T := TX5) (N := 12) hx hb hts hiw5 tyX5 tyX5_ok hown (hw_ hts 4 rfl) (hw_ hts 5 rfl) (hw_ hts 6 rfl) hK hP hD hS hA rfl (fun j hj => dfl5 j hj) (Nat.le_of_ble_eq_true rfl) (Nat.le_of_ble_eq_true rfl) dX6_init_5 (fun o1 H1 hP hD hS => ?_)
  have hP : va_P (dC, dI) vwCl ([(h0, .inr (6, [.null, .null, .null, .null, .null, .null, .null])), (o1, .inr (5, [.int 0, .null, .null, .null, .null, .null, .null, .int 0, .null, .null, .null, .null]))]) H1 := hP
  have hD : va_D A ([(h0, .inr (6, [.null, .null, .null, .null, .null, .null, .null])), (o1, .inr (5, [.int 0, .null, .null, .null, .null, .null, .null, .int 0, .null, .null, .null, .null]))]) := hD
  refine lv_dup hx hb dX6_init_8 rfl ?_
  have hF := va_free (wc := [(o1, .inr (5, [.int 0, .null, .null, .null, .null, .null, .null, .int 0, .null, .null, .null, .null]))]) hD hS hA [1] rfl
  refine va_callv (va_runI (As := []) (rest := [.ref o1, .ref h0]) ⟨hx, hb, hml, hown, hts⟩ (met_X5_init l dC dI cI cZ cS o1 H1.size) (cwI 0 hts gX6_init_X5_init rfl rfl rfl (hw_ hts 6 rfl) (hw_ hts 29 rfl) (hw_ hts 30 rfl) rfl (by decide +kernel) ⟨(Nat.le_of_ble_eq_true rfl), (Nat.le_of_ble_eq_true rfl)⟩) (pS (wc := [(o1, .inr (5, [.int 0, .null, .null, .null, .null, .null, .null, .int 0, .null, .null, .null, .null]))]) hK hP hD hN [1] rfl (by decide)) rfl rfl hl.1 rfl (lv_room (Nat.le_of_ble_eq_true rfl)) dX6_init_9 ⟨(Nat.le_of_ble_eq_true rfl), (Nat.le_of_ble_eq_true rfl)⟩) hS (fun q _ h => hF q h) hF (fun u1 t H2 locs ht hvm hw hB hz1 hk1 hS => ?_)
  try dsimp only at hw hB
  obtain ⟨hP1, hD1⟩ := hB
  rw [ht] at hP1
  obtain ⟨hP9, hD9⟩ := va_join (wr := [(h0, .inr (6, [.null, .null, .null, .null, .null, .null, .null]))]) (w1 := wSt cI u1 S00) hP hD [1] [0] rfl rfl (by decide) (by decide) hk1 hF hP1 hD1
  subst hw
  have hP : va_P (dC, dI) vwCl ([(h0, .inr (6, [.null, .null, .null, .null, .null, .null, .null]))] ++ (wSt cI u1 S00)) H2 := hP9
  have hD : va_D A ([(h0, .inr (6, [.null, .null, .null, .null, .null, .null, .null]))] ++ (wSt cI u1 S00)) := hD9
  refine va_putF (D := (dC, dI)) (ci := 6) (v := .ref (u1 0)) (ty := tyX6 0) (C := RX6) (T := TX6) (N := 7) hx hb hts hin1 tyX6 tyX6_ok nmX6 hown hK hP hD hS 0 rfl rfl 0 (by decide) (hw_ hts 7 rfl) (fun _ h9 => h9) rfl hin rfl (tyX6_ok 0 (by decide)) rfl rfl (Nat.le_of_ble_eq_true rfl) dX6_init_12 (fun H3 locs hP hD hS => ?_)
  have hP : va_P (dC, dI) vwCl ([(h0, .inr (6, [.ref (u1 0), .null, .null, .null, .null, .null, .null]))] ++ (wSt cI u1 S00)) H3 := hP
  have hD : va_D A ([(h0, .inr (6, [.ref (u1 0), .null, .null, .null, .null, .null, .null]))] ++ (wSt cI u1 S00)) := hD
  refine lv_aload_n hx hb dX6_init_15 rfl (lv_at hl 0 rfl) ?_
  have hiw5 : ∀ w ∈ wsX50, w ∈ wsX6_init := by decide +kernel
  refine va_new (ci := 5) (fs := [.int 0, .null, .null, .null, .null, .null, .null, .int 0, .null, .null, .null, .null]) (C := RX5) (T := TX5) (N := 12) hx hb hts hiw5 tyX5 tyX5_ok hown (hw_ hts 4 rfl) (hw_ hts 5 rfl) (hw_ hts 6 rfl) hK hP hD hS hA rfl (fun j hj => dfl5 j hj) (Nat.le_of_ble_eq_true rfl) (Nat.le_of_ble_eq_true rfl) dX6_init_16 (fun o2 H4 hP hD hS => ?_)
  have hP : va_P (dC, dI) vwCl ([(h0, .inr (6, [.ref (u1 0), .null, .null, .null, .null, .null, .null]))] ++ (wSt cI u1 S00 ++ ([(o2, .inr (5, [.int 0, .null, .null, .null, .null, .null, .null, .int 0, .null, .null, .null, .null]))]))) H4 := hP
  have hD : va_D A ([(h0, .inr (6, [.ref (u1 0), .null, .null, .null, .null, .null, .null]))] ++ (wSt cI u1 S00 ++ ([(o2, .inr (5, [.int 0, .null, .null, .null, .null, .null, .null, .int 0, .null, .null, .null, .null]))]))) := hD
  refine lv_dup hx hb dX6_init_19 rfl ?_
  have hF := va_free (wc := [(o2, .inr (5, [.int 0, .null, .null, .null, .null, .null, .null, .int 0, .null, .null, .null, .null]))]) hD hS hA [12] rfl
  refine va_callv (va_runI (As := []) (rest := [.ref o2, .ref h0]) ⟨hx, hb, hml, hown, hts⟩ (met_X5_init l dC dI cI cZ cS o2 H4.size) (cwI 0 hts gX6_init_X5_init rfl rfl rfl (hw_ hts 6 rfl) (hw_ hts 29 rfl) (hw_ hts 30 rfl) rfl (by decide +kernel) ⟨(Nat.le_of_ble_eq_true rfl), (Nat.le_of_ble_eq_true rfl)⟩) (pS (wc := [(o2, .inr (5, [.int 0, .null, .null, .null, .null, .null, .null, .int 0, .null, .null, .null, .null]))]) hK hP hD hN [12] rfl (by decide)) rfl rfl hl.1 rfl (lv_room (Nat.le_of_ble_eq_true rfl)) dX6_init_20 ⟨(Nat.le_of_ble_eq_true rfl), (Nat.le_of_ble_eq_true rfl)⟩) hS (fun q _ h => hF q h) hF (fun u2 t H5 locs ht hvm hw hB hz1 hk1 hS => ?_)
  try dsimp only at hw hB
  obtain ⟨hP1, hD1⟩ := hB
  rw [ht] at hP1
  obtain ⟨hP9, hD9⟩ := va_join (wr := [(h0, .inr (6, [.ref (u1 0), .null, .null, .null, .null, .null, .null]))] ++ (wSt cI u1 S00)) (w1 := wSt cI u2 S00) hP hD [12] [0, 1, 2, 3, 4, 5, 6, 7, 8, 9, 10, 11] rfl rfl (by decide) (by decide) hk1 hF hP1 hD1
  subst hw
  have hP : va_P (dC, dI) vwCl ([(h0, .inr (6, [.ref (u1 0), .null, .null, .null, .null, .null, .null]))] ++ (wSt cI u1 S00 ++ (wSt cI u2 S00))) H5 := hP9
  have hD : va_D A ([(h0, .inr (6, [.ref (u1 0), .null, .null, .null, .null, .null, .null]))] ++ (wSt cI u1 S00 ++ (wSt cI u2 S00))) := hD9
  refine va_putF (D := (dC, dI)) (ci := 6) (v := .ref (u2 0)) (ty := tyX6 1) (C := RX6) (T := TX6) (N := 7) hx hb hts hin1 tyX6 tyX6_ok nmX6 hown hK hP hD hS 0 rfl rfl 1 (by decide) (hw_ hts 8 rfl) (fun _ h9 => h9) rfl hin rfl (tyX6_ok 1 (by decide)) rfl rfl (Nat.le_of_ble_eq_true rfl) dX6_init_23 (fun H6 locs hP hD hS => ?_)
  have hP : va_P (dC, dI) vwCl ([(h0, .inr (6, [.ref (u1 0), .ref (u2 0), .null, .null, .null, .null, .null]))] ++ (wSt cI u1 S00 ++ (wSt cI u2 S00))) H6 := hP
  have hD : va_D A ([(h0, .inr (6, [.ref (u1 0), .ref (u2 0), .null, .null, .null, .null, .null]))] ++ (wSt cI u1 S00 ++ (wSt cI u2 S00))) := hD
  refine lv_aload_n hx hb dX6_init_26 rfl (lv_at hl 0 rfl) ?_
  have hiw1 : ∀ w ∈ wsX10, w ∈ wsX6_init := by decide +kernel
  refine va_new (ci := 1) (fs := [.null, .null]) (C := RX1) (T := TX1) (N := 2) hx hb hts hiw1 tyX1 tyX1_ok hown (hw_ hts 9 rfl) (hw_ hts 10 rfl) (hw_ hts 11 rfl) hK hP hD hS hA rfl (fun j hj => dfl1 j hj) (Nat.le_of_ble_eq_true rfl) (Nat.le_of_ble_eq_true rfl) dX6_init_27 (fun o3 H7 hP hD hS => ?_)
  have hP : va_P (dC, dI) vwCl ([(h0, .inr (6, [.ref (u1 0), .ref (u2 0), .null, .null, .null, .null, .null]))] ++ (wSt cI u1 S00 ++ (wSt cI u2 S00 ++ ([(o3, .inr (1, [.null, .null]))])))) H7 := hP
  have hD : va_D A ([(h0, .inr (6, [.ref (u1 0), .ref (u2 0), .null, .null, .null, .null, .null]))] ++ (wSt cI u1 S00 ++ (wSt cI u2 S00 ++ ([(o3, .inr (1, [.null, .null]))])))) := hD
  refine lv_dup hx hb dX6_init_30 rfl ?_
  have hF := va_free (wc := [(o3, .inr (1, [.null, .null]))]) hD hS hA [23] rfl
  refine va_callv (va_runI (As := []) (rest := [.ref o3, .ref h0]) ⟨hx, hb, hml, hown, hts⟩ (met_X1_init l dC dI cI cZ cS o3 H7.size) (cwI 0 hts gX6_init_X1_init rfl rfl rfl (hw_ hts 11 rfl) (hw_ hts 53 rfl) (hw_ hts 54 rfl) rfl (by decide +kernel) ⟨(Nat.le_of_ble_eq_true rfl), (Nat.le_of_ble_eq_true rfl)⟩) (pS (wc := [(o3, .inr (1, [.null, .null]))]) hK hP hD hN [23] rfl (by decide)) rfl rfl hl.1 rfl (lv_room (Nat.le_of_ble_eq_true rfl)) dX6_init_31 ⟨(Nat.le_of_ble_eq_true rfl), (Nat.le_of_ble_eq_true rfl)⟩) hS (fun q _ h => hF q h) hF (fun u3 t H8 locs ht hvm hw hB hz1 hk1 hS => ?_)
  try dsimp only at hw hB
  obtain ⟨hP1, hD1⟩ := hB
  rw [ht] at hP1
  obtain ⟨hP9, hD9⟩ := va_join (wr := [(h0, .inr (6, [.ref (u1 0), .ref (u2 0), .null, .null, .null, .null, .null]))] ++ (wSt cI u1 S00 ++ (wSt cI u2 S00))) (w1 := wLo cI u3 P00) hP hD [23] [0, 1, 2, 3, 4, 5, 6, 7, 8, 9, 10, 11, 12, 13, 14, 15, 16, 17, 18, 19, 20, 21, 22] rfl rfl (by decide) (by decide) hk1 hF hP1 hD1
  subst hw
  have hP : va_P (dC, dI) vwCl ([(h0, .inr (6, [.ref (u1 0), .ref (u2 0), .null, .null, .null, .null, .null]))] ++ (wSt cI u1 S00 ++ (wSt cI u2 S00 ++ (wLo cI u3 P00)))) H8 := hP9
  have hD : va_D A ([(h0, .inr (6, [.ref (u1 0), .ref (u2 0), .null, .null, .null, .null, .null]))] ++ (wSt cI u1 S00 ++ (wSt cI u2 S00 ++ (wLo cI u3 P00)))) := hD9
  refine va_putF (D := (dC, dI)) (ci := 6) (v := .ref (u3 0)) (ty := tyX6 2) (C := RX6) (T := TX6) (N := 7) hx hb hts hin1 tyX6 tyX6_ok nmX6 hown hK hP hD hS 0 rfl rfl 2 (by decide) (hw_ hts 12 rfl) (fun _ h9 => h9) rfl hin rfl (tyX6_ok 2 (by decide)) rfl rfl (Nat.le_of_ble_eq_true rfl) dX6_init_34 (fun H9 locs hP hD hS => ?_)
  have hP : va_P (dC, dI) vwCl ([(h0, .inr (6, [.ref (u1 0), .ref (u2 0), .ref (u3 0), .null, .null, .null, .null]))] ++ (wSt cI u1 S00 ++ (wSt cI u2 S00 ++ (wLo cI u3 P00)))) H9 := hP
  have hD : va_D A ([(h0, .inr (6, [.ref (u1 0), .ref (u2 0), .ref (u3 0), .null, .null, .null, .null]))] ++ (wSt cI u1 S00 ++ (wSt cI u2 S00 ++ (wLo cI u3 P00)))) := hD
  refine lv_aload_n hx hb dX6_init_37 rfl (lv_at hl 0 rfl) ?_
  have hiw2 : ∀ w ∈ wsX20, w ∈ wsX6_init := by decide +kernel
  refine va_new (ci := 2) (fs := [.null, .null]) (C := RX2) (T := TX2) (N := 2) hx hb hts hiw2 tyX2 tyX2_ok hown (hw_ hts 13 rfl) (hw_ hts 14 rfl) (hw_ hts 15 rfl) hK hP hD hS hA rfl (fun j hj => dfl2 j hj) (Nat.le_of_ble_eq_true rfl) (Nat.le_of_ble_eq_true rfl) dX6_init_38 (fun o4 H10 hP hD hS => ?_)
  have hP : va_P (dC, dI) vwCl ([(h0, .inr (6, [.ref (u1 0), .ref (u2 0), .ref (u3 0), .null, .null, .null, .null]))] ++ (wSt cI u1 S00 ++ (wSt cI u2 S00 ++ (wLo cI u3 P00 ++ ([(o4, .inr (2, [.null, .null]))]))))) H10 := hP
  have hD : va_D A ([(h0, .inr (6, [.ref (u1 0), .ref (u2 0), .ref (u3 0), .null, .null, .null, .null]))] ++ (wSt cI u1 S00 ++ (wSt cI u2 S00 ++ (wLo cI u3 P00 ++ ([(o4, .inr (2, [.null, .null]))]))))) := hD
  refine lv_dup hx hb dX6_init_41 rfl ?_
  refine lv_aload_n hx hb dX6_init_42 rfl (lv_at hl 0 rfl) ?_
  refine va_get (D := (dC, dI)) (ci := 6) (v := .ref (u1 0)) (C := RX6) (T := TX6) (N := 7) hx hb hts hin1 hown hK hP 0 rfl rfl 0 (by decide) (hw_ hts 7 rfl) (fun _ h9 => h9) rfl dX6_init_43 ?_
  refine lv_aload_n hx hb dX6_init_46 rfl (lv_at hl 0 rfl) ?_
  refine va_get (D := (dC, dI)) (ci := 6) (v := .ref (u3 0)) (C := RX6) (T := TX6) (N := 7) hx hb hts hin1 hown hK hP 0 rfl rfl 2 (by decide) (hw_ hts 12 rfl) (fun _ h9 => h9) rfl dX6_init_47 ?_
  have hF := va_free (wc := [(o4, .inr (2, [.null, .null]))]) hD hS hA [26] rfl
  refine va_callv (va_runI (As := [.ref (u1 0), .ref (u3 0)]) (rest := [.ref o4, .ref h0]) ⟨hx, hb, hml, hown, hts⟩ (met_X2_init l dC dI cI cZ cS o4 (u1 0) (u3 0) H10.size) (cwI 2 hts gX6_init_X2_init rfl rfl rfl (hw_ hts 15 rfl) (hw_ hts 59 rfl) (hw_ hts 60 rfl) rfl (by decide +kernel) ⟨(Nat.le_of_ble_eq_true rfl), (Nat.le_of_ble_eq_true rfl)⟩) (pS (wc := [(o4, .inr (2, [.null, .null]))]) hK hP hD hN [26] rfl (by decide)) rfl rfl hl.1 rfl (lv_room (Nat.le_of_ble_eq_true rfl)) dX6_init_50 ⟨(Nat.le_of_ble_eq_true rfl), (Nat.le_of_ble_eq_true rfl)⟩) hS (fun q _ h => hF q h) hF (fun u4 t H11 locs ht hvm hw hB hz1 hk1 hS => ?_)
  try dsimp only at hw hB
  obtain ⟨hP1, hD1⟩ := hB
  rw [ht] at hP1
  obtain ⟨hP9, hD9⟩ := va_join (wr := [(h0, .inr (6, [.ref (u1 0), .ref (u2 0), .ref (u3 0), .null, .null, .null, .null]))] ++ (wSt cI u1 S00 ++ (wSt cI u2 S00 ++ (wLo cI u3 P00)))) (w1 := [(o4, .inr (2, [.ref (u1 0), .ref (u3 0)]))]) hP hD [26] [0, 1, 2, 3, 4, 5, 6, 7, 8, 9, 10, 11, 12, 13, 14, 15, 16, 17, 18, 19, 20, 21, 22, 23, 24, 25] rfl rfl (by decide) (by decide) hk1 hF hP1 hD1
  have hP : va_P (dC, dI) vwCl ([(h0, .inr (6, [.ref (u1 0), .ref (u2 0), .ref (u3 0), .null, .null, .null, .null]))] ++ (wSt cI u1 S00 ++ (wSt cI u2 S00 ++ (wLo cI u3 P00 ++ ([(o4, .inr (2, [.ref (u1 0), .ref (u3 0)]))]))))) H11 := hP9
  have hD : va_D A ([(h0, .inr (6, [.ref (u1 0), .ref (u2 0), .ref (u3 0), .null, .null, .null, .null]))] ++ (wSt cI u1 S00 ++ (wSt cI u2 S00 ++ (wLo cI u3 P00 ++ ([(o4, .inr (2, [.ref (u1 0), .ref (u3 0)]))]))))) := hD9
  refine va_putF (D := (dC, dI)) (ci := 6) (v := .ref o4) (ty := tyX6 3) (C := RX6) (T := TX6) (N := 7) hx hb hts hin1 tyX6 tyX6_ok nmX6 hown hK hP hD hS 0 rfl rfl 3 (by decide) (hw_ hts 16 rfl) (fun _ h9 => h9) rfl hin rfl (tyX6_ok 3 (by decide)) rfl rfl (Nat.le_of_ble_eq_true rfl) dX6_init_53 (fun H12 locs hP hD hS => ?_)
  have hP : va_P (dC, dI) vwCl ([(h0, .inr (6, [.ref (u1 0), .ref (u2 0), .ref (u3 0), .ref o4, .null, .null, .null]))] ++ (wSt cI u1 S00 ++ (wSt cI u2 S00 ++ (wLo cI u3 P00 ++ ([(o4, .inr (2, [.ref (u1 0), .ref (u3 0)]))]))))) H12 := hP
  have hD : va_D A ([(h0, .inr (6, [.ref (u1 0), .ref (u2 0), .ref (u3 0), .ref o4, .null, .null, .null]))] ++ (wSt cI u1 S00 ++ (wSt cI u2 S00 ++ (wLo cI u3 P00 ++ ([(o4, .inr (2, [.ref (u1 0), .ref (u3 0)]))]))))) := hD
  refine lv_aload_n hx hb dX6_init_56 rfl (lv_at hl 0 rfl) ?_
  have hiw0 : ∀ w ∈ wsX00, w ∈ wsX6_init := by decide +kernel
  refine va_new (ci := 0) (fs := [.null, .int 0, .int 0]) (C := RX0) (T := TX0) (N := 3) hx hb hts hiw0 tyX0 tyX0_ok hown (hw_ hts 17 rfl) (hw_ hts 18 rfl) (hw_ hts 19 rfl) hK hP hD hS hA rfl (fun j hj => dfl0 j hj) (Nat.le_of_ble_eq_true rfl) (Nat.le_of_ble_eq_true rfl) dX6_init_57 (fun o5 H13 hP hD hS => ?_)
  have hP : va_P (dC, dI) vwCl ([(h0, .inr (6, [.ref (u1 0), .ref (u2 0), .ref (u3 0), .ref o4, .null, .null, .null]))] ++ (wSt cI u1 S00 ++ (wSt cI u2 S00 ++ (wLo cI u3 P00 ++ ([(o4, .inr (2, [.ref (u1 0), .ref (u3 0)]))] ++ ([(o5, .inr (0, [.null, .int 0, .int 0]))])))))) H13 := hP
  have hD : va_D A ([(h0, .inr (6, [.ref (u1 0), .ref (u2 0), .ref (u3 0), .ref o4, .null, .null, .null]))] ++ (wSt cI u1 S00 ++ (wSt cI u2 S00 ++ (wLo cI u3 P00 ++ ([(o4, .inr (2, [.ref (u1 0), .ref (u3 0)]))] ++ ([(o5, .inr (0, [.null, .int 0, .int 0]))])))))) := hD
  refine lv_dup hx hb dX6_init_60 rfl ?_
  have hF := va_free (wc := [(o5, .inr (0, [.null, .int 0, .int 0]))]) hD hS hA [27] rfl
  refine va_callv (va_runI (As := []) (rest := [.ref o5, .ref h0]) ⟨hx, hb, hml, hown, hts⟩ (met_X0_init l dC dI cI cZ cS o5 H13.size) (cwI 0 hts gX6_init_X0_init rfl rfl rfl (hw_ hts 19 rfl) (hw_ hts 65 rfl) (hw_ hts 66 rfl) rfl (by decide +kernel) ⟨(Nat.le_of_ble_eq_true rfl), (Nat.le_of_ble_eq_true rfl)⟩) (pSO (wc := [(o5, .inr (0, [.null, .int 0, .int 0]))]) hK hP hD hN hAO [27] rfl (by decide)) rfl rfl hl.1 rfl (lv_room (Nat.le_of_ble_eq_true rfl)) dX6_init_61 ⟨(Nat.le_of_ble_eq_true rfl), (Nat.le_of_ble_eq_true rfl)⟩) hS (fun q _ h => hF q h) hF (fun u5 t H14 locs ht hvm hw hB hz1 hk1 hS => ?_)
  try dsimp only at hw hB
  obtain ⟨hP1, hD1⟩ := hB
  rw [ht] at hP1
  obtain ⟨hP9, hD9⟩ := va_join (wr := [(h0, .inr (6, [.ref (u1 0), .ref (u2 0), .ref (u3 0), .ref o4, .null, .null, .null]))] ++ (wSt cI u1 S00 ++ (wSt cI u2 S00 ++ (wLo cI u3 P00 ++ ([(o4, .inr (2, [.ref (u1 0), .ref (u3 0)]))]))))) (w1 := (wHi cS u5.1 u5.2 P00 ++ wZs cI u5.2 (fun _ => S00))) hP hD [27] [0, 1, 2, 3, 4, 5, 6, 7, 8, 9, 10, 11, 12, 13, 14, 15, 16, 17, 18, 19, 20, 21, 22, 23, 24, 25, 26] rfl rfl (by decide) (by decide) hk1 hF hP1 hD1
  obtain ⟨u5a, u5b⟩ := u5
  try dsimp only at hw hP hD
  subst hw
  have hP : va_P (dC, dI) vwCl ([(h0, .inr (6, [.ref (u1 0), .ref (u2 0), .ref (u3 0), .ref o4, .null, .null, .null]))] ++ (wSt cI u1 S00 ++ (wSt cI u2 S00 ++ (wLo cI u3 P00 ++ ([(o4, .inr (2, [.ref (u1 0), .ref (u3 0)]))] ++ ((wHi cS u5a u5b P00 ++ wZs cI u5b (fun _ => S00)))))))) H14 := hP9
  have hD : va_D A ([(h0, .inr (6, [.ref (u1 0), .ref (u2 0), .ref (u3 0), .ref o4, .null, .null, .null]))] ++ (wSt cI u1 S00 ++ (wSt cI u2 S00 ++ (wLo cI u3 P00 ++ ([(o4, .inr (2, [.ref (u1 0), .ref (u3 0)]))] ++ ((wHi cS u5a u5b P00 ++ wZs cI u5b (fun _ => S00)))))))) := hD9
  refine va_putF (D := (dC, dI)) (ci := 6) (v := .ref (u5a 0)) (ty := tyX6 4) (C := RX6) (T := TX6) (N := 7) hx hb hts hin1 tyX6 tyX6_ok nmX6 hown hK hP hD hS 0 rfl rfl 4 (by decide) (hw_ hts 20 rfl) (fun _ h9 => h9) rfl hin rfl (tyX6_ok 4 (by decide)) rfl rfl (Nat.le_of_ble_eq_true rfl) dX6_init_64 (fun H15 locs hP hD hS => ?_)
  have hP : va_P (dC, dI) vwCl ([(h0, .inr (6, [.ref (u1 0), .ref (u2 0), .ref (u3 0), .ref o4, .ref (u5a 0), .null, .null]))] ++ (wSt cI u1 S00 ++ (wSt cI u2 S00 ++ (wLo cI u3 P00 ++ ([(o4, .inr (2, [.ref (u1 0), .ref (u3 0)]))] ++ ((wHi cS u5a u5b P00 ++ wZs cI u5b (fun _ => S00)))))))) H15 := hP
  have hD : va_D A ([(h0, .inr (6, [.ref (u1 0), .ref (u2 0), .ref (u3 0), .ref o4, .ref (u5a 0), .null, .null]))] ++ (wSt cI u1 S00 ++ (wSt cI u2 S00 ++ (wLo cI u3 P00 ++ ([(o4, .inr (2, [.ref (u1 0), .ref (u3 0)]))] ++ ((wHi cS u5a u5b P00 ++ wZs cI u5b (fun _ => S00)))))))) := hD
  refine lv_aload_n hx hb dX6_init_67 rfl (lv_at hl 0 rfl) ?_
  have hiw4 : ∀ w ∈ wsX40, w ∈ wsX6_init := by decide +kernel
  refine va_new (ci := 4) (fs := [.null, .null]) (C := RX4) (T := TX4) (N := 2) hx hb hts hiw4 tyX4 tyX4_ok hown (hw_ hts 21 rfl) (hw_ hts 22 rfl) (hw_ hts 23 rfl) hK hP hD hS hA rfl (fun j hj => dfl4 j hj) (Nat.le_of_ble_eq_true rfl) (Nat.le_of_ble_eq_true rfl) dX6_init_68 (fun o6 H16 hP hD hS => ?_)
  have hP : va_P (dC, dI) vwCl ([(h0, .inr (6, [.ref (u1 0), .ref (u2 0), .ref (u3 0), .ref o4, .ref (u5a 0), .null, .null]))] ++ (wSt cI u1 S00 ++ (wSt cI u2 S00 ++ (wLo cI u3 P00 ++ ([(o4, .inr (2, [.ref (u1 0), .ref (u3 0)]))] ++ ((wHi cS u5a u5b P00 ++ wZs cI u5b (fun _ => S00)) ++ ([(o6, .inr (4, [.null, .null]))]))))))) H16 := hP
  have hD : va_D A ([(h0, .inr (6, [.ref (u1 0), .ref (u2 0), .ref (u3 0), .ref o4, .ref (u5a 0), .null, .null]))] ++ (wSt cI u1 S00 ++ (wSt cI u2 S00 ++ (wLo cI u3 P00 ++ ([(o4, .inr (2, [.ref (u1 0), .ref (u3 0)]))] ++ ((wHi cS u5a u5b P00 ++ wZs cI u5b (fun _ => S00)) ++ ([(o6, .inr (4, [.null, .null]))]))))))) := hD
  refine lv_dup hx hb dX6_init_71 rfl ?_
  have hF := va_free (wc := [(o6, .inr (4, [.null, .null]))]) hD hS hA [95] rfl
  refine va_callv (va_runI (As := []) (rest := [.ref o6, .ref h0]) ⟨hx, hb, hml, hown, hts⟩ (met_X4_init l dC dI cI cZ cS o6 H16.size) (cwI 0 hts gX6_init_X4_init rfl rfl rfl (hw_ hts 23 rfl) (hw_ hts 74 rfl) (hw_ hts 75 rfl) rfl (by decide +kernel) ⟨(Nat.le_of_ble_eq_true rfl), (Nat.le_of_ble_eq_true rfl)⟩) (pS (wc := [(o6, .inr (4, [.null, .null]))]) hK hP hD hN [95] rfl (by decide)) rfl rfl hl.1 rfl (lv_room (Nat.le_of_ble_eq_true rfl)) dX6_init_72 ⟨(Nat.le_of_ble_eq_true rfl), (Nat.le_of_ble_eq_true rfl)⟩) hS (fun q _ h => hF q h) hF (fun u6 t H17 locs ht hvm hw hB hz1 hk1 hS => ?_)
  try dsimp only at hw hB
  obtain ⟨hP1, hD1⟩ := hB
  rw [ht] at hP1
  obtain ⟨hP9, hD9⟩ := va_join (wr := [(h0, .inr (6, [.ref (u1 0), .ref (u2 0), .ref (u3 0), .ref o4, .ref (u5a 0), .null, .null]))] ++ (wSt cI u1 S00 ++ (wSt cI u2 S00 ++ (wLo cI u3 P00 ++ ([(o4, .inr (2, [.ref (u1 0), .ref (u3 0)]))] ++ ((wHi cS u5a u5b P00 ++ wZs cI u5b (fun _ => S00)))))))) (w1 := wSn cI cZ u6 P00) hP hD [95] [0, 1, 2, 3, 4, 5, 6, 7, 8, 9, 10, 11, 12, 13, 14, 15, 16, 17, 18, 19, 20, 21, 22, 23, 24, 25, 26, 27, 28, 29, 30, 31, 32, 33, 34, 35, 36, 37, 38, 39, 40, 41, 42, 43, 44, 45, 46, 47, 48, 49, 50, 51, 52, 53, 54, 55, 56, 57, 58, 59, 60, 61, 62, 63, 64, 65, 66, 67, 68, 69, 70, 71, 72, 73, 74, 75, 76, 77, 78, 79, 80, 81, 82, 83, 84, 85, 86, 87, 88, 89, 90, 91, 92, 93, 94] rfl rfl (by decide) (by decide) hk1 hF hP1 hD1
  subst hw
  have hP : va_P (dC, dI) vwCl ([(h0, .inr (6, [.ref (u1 0), .ref (u2 0), .ref (u3 0), .ref o4, .ref (u5a 0), .null, .null]))] ++ (wSt cI u1 S00 ++ (wSt cI u2 S00 ++ (wLo cI u3 P00 ++ ([(o4, .inr (2, [.ref (u1 0), .ref (u3 0)]))] ++ ((wHi cS u5a u5b P00 ++ wZs cI u5b (fun _ => S00)) ++ (wSn cI cZ u6 P00))))))) H17 := hP9
  have hD : va_D A ([(h0, .inr (6, [.ref (u1 0), .ref (u2 0), .ref (u3 0), .ref o4, .ref (u5a 0), .null, .null]))] ++ (wSt cI u1 S00 ++ (wSt cI u2 S00 ++ (wLo cI u3 P00 ++ ([(o4, .inr (2, [.ref (u1 0), .ref (u3 0)]))] ++ ((wHi cS u5a u5b P00 ++ wZs cI u5b (fun _ => S00)) ++ (wSn cI cZ u6 P00))))))) := hD9
  refine va_putF (D := (dC, dI)) (ci := 6) (v := .ref (u6 0)) (ty := tyX6 5) (C := RX6) (T := TX6) (N := 7) hx hb hts hin1 tyX6 tyX6_ok nmX6 hown hK hP hD hS 0 rfl rfl 5 (by decide) (hw_ hts 24 rfl) (fun _ h9 => h9) rfl hin rfl (tyX6_ok 5 (by decide)) rfl rfl (Nat.le_of_ble_eq_true rfl) dX6_init_75 (fun H18 locs hP hD hS => ?_)
  have hP : va_P (dC, dI) vwCl ([(h0, .inr (6, [.ref (u1 0), .ref (u2 0), .ref (u3 0), .ref o4, .ref (u5a 0), .ref (u6 0), .null]))] ++ (wSt cI u1 S00 ++ (wSt cI u2 S00 ++ (wLo cI u3 P00 ++ ([(o4, .inr (2, [.ref (u1 0), .ref (u3 0)]))] ++ ((wHi cS u5a u5b P00 ++ wZs cI u5b (fun _ => S00)) ++ (wSn cI cZ u6 P00))))))) H18 := hP
  have hD : va_D A ([(h0, .inr (6, [.ref (u1 0), .ref (u2 0), .ref (u3 0), .ref o4, .ref (u5a 0), .ref (u6 0), .null]))] ++ (wSt cI u1 S00 ++ (wSt cI u2 S00 ++ (wLo cI u3 P00 ++ ([(o4, .inr (2, [.ref (u1 0), .ref (u3 0)]))] ++ ((wHi cS u5a u5b P00 ++ wZs cI u5b (fun _ => S00)) ++ (wSn cI cZ u6 P00))))))) := hD
  refine lv_aload_n hx hb dX6_init_78 rfl (lv_at hl 0 rfl) ?_
  have hiw3 : ∀ w ∈ wsX30, w ∈ wsX6_init := by decide +kernel
  refine va_new (ci := 3) (fs := [.null, .int 0]) (C := RX3) (T := TX3) (N := 2) hx hb hts hiw3 tyX3 tyX3_ok hown (hw_ hts 25 rfl) (hw_ hts 26 rfl) (hw_ hts 27 rfl) hK hP hD hS hA rfl (fun j hj => dfl3 j hj) (Nat.le_of_ble_eq_true rfl) (Nat.le_of_ble_eq_true rfl) dX6_init_79 (fun o7 H19 hP hD hS => ?_)
  have hP : va_P (dC, dI) vwCl ([(h0, .inr (6, [.ref (u1 0), .ref (u2 0), .ref (u3 0), .ref o4, .ref (u5a 0), .ref (u6 0), .null]))] ++ (wSt cI u1 S00 ++ (wSt cI u2 S00 ++ (wLo cI u3 P00 ++ ([(o4, .inr (2, [.ref (u1 0), .ref (u3 0)]))] ++ ((wHi cS u5a u5b P00 ++ wZs cI u5b (fun _ => S00)) ++ (wSn cI cZ u6 P00 ++ ([(o7, .inr (3, [.null, .int 0]))])))))))) H19 := hP
  have hD : va_D A ([(h0, .inr (6, [.ref (u1 0), .ref (u2 0), .ref (u3 0), .ref o4, .ref (u5a 0), .ref (u6 0), .null]))] ++ (wSt cI u1 S00 ++ (wSt cI u2 S00 ++ (wLo cI u3 P00 ++ ([(o4, .inr (2, [.ref (u1 0), .ref (u3 0)]))] ++ ((wHi cS u5a u5b P00 ++ wZs cI u5b (fun _ => S00)) ++ (wSn cI cZ u6 P00 ++ ([(o7, .inr (3, [.null, .int 0]))])))))))) := hD
  refine lv_dup hx hb dX6_init_82 rfl ?_
  have hF := va_free (wc := [(o7, .inr (3, [.null, .int 0]))]) hD hS hA [98] rfl
  refine va_callv (va_runI (As := []) (rest := [.ref o7, .ref h0]) ⟨hx, hb, hml, hown, hts⟩ (met_X3_init l dC dI cI cZ cS o7 H19.size) (cwI 0 hts gX6_init_X3_init rfl rfl rfl (hw_ hts 27 rfl) (hw_ hts 81 rfl) (hw_ hts 82 rfl) rfl (by decide +kernel) ⟨(Nat.le_of_ble_eq_true rfl), (Nat.le_of_ble_eq_true rfl)⟩) (pS (wc := [(o7, .inr (3, [.null, .int 0]))]) hK hP hD hN [98] rfl (by decide)) rfl rfl hl.1 rfl (lv_room (Nat.le_of_ble_eq_true rfl)) dX6_init_83 ⟨(Nat.le_of_ble_eq_true rfl), (Nat.le_of_ble_eq_true rfl)⟩) hS (fun q _ h => hF q h) hF (fun u7 t H20 locs ht hvm hw hB hz1 hk1 hS => ?_)
  try dsimp only at hw hB
  obtain ⟨hP1, hD1⟩ := hB
  rw [ht] at hP1
  obtain ⟨hP9, hD9⟩ := va_join (wr := [(h0, .inr (6, [.ref (u1 0), .ref (u2 0), .ref (u3 0), .ref o4, .ref (u5a 0), .ref (u6 0), .null]))] ++ (wSt cI u1 S00 ++ (wSt cI u2 S00 ++ (wLo cI u3 P00 ++ ([(o4, .inr (2, [.ref (u1 0), .ref (u3 0)]))] ++ ((wHi cS u5a u5b P00 ++ wZs cI u5b (fun _ => S00)) ++ (wSn cI cZ u6 P00))))))) (w1 := wTx cI u7 P00) hP hD [98] [0, 1, 2, 3, 4, 5, 6, 7, 8, 9, 10, 11, 12, 13, 14, 15, 16, 17, 18, 19, 20, 21, 22, 23, 24, 25, 26, 27, 28, 29, 30, 31, 32, 33, 34, 35, 36, 37, 38, 39, 40, 41, 42, 43, 44, 45, 46, 47, 48, 49, 50, 51, 52, 53, 54, 55, 56, 57, 58, 59, 60, 61, 62, 63, 64, 65, 66, 67, 68, 69, 70, 71, 72, 73, 74, 75, 76, 77, 78, 79, 80, 81, 82, 83, 84, 85, 86, 87, 88, 89, 90, 91, 92, 93, 94, 95, 96, 97] rfl rfl (by decide) (by decide) hk1 hF hP1 hD1
  subst hw
  have hP : va_P (dC, dI) vwCl ([(h0, .inr (6, [.ref (u1 0), .ref (u2 0), .ref (u3 0), .ref o4, .ref (u5a 0), .ref (u6 0), .null]))] ++ (wSt cI u1 S00 ++ (wSt cI u2 S00 ++ (wLo cI u3 P00 ++ ([(o4, .inr (2, [.ref (u1 0), .ref (u3 0)]))] ++ ((wHi cS u5a u5b P00 ++ wZs cI u5b (fun _ => S00)) ++ (wSn cI cZ u6 P00 ++ (wTx cI u7 P00)))))))) H20 := hP9
  have hD : va_D A ([(h0, .inr (6, [.ref (u1 0), .ref (u2 0), .ref (u3 0), .ref o4, .ref (u5a 0), .ref (u6 0), .null]))] ++ (wSt cI u1 S00 ++ (wSt cI u2 S00 ++ (wLo cI u3 P00 ++ ([(o4, .inr (2, [.ref (u1 0), .ref (u3 0)]))] ++ ((wHi cS u5a u5b P00 ++ wZs cI u5b (fun _ => S00)) ++ (wSn cI cZ u6 P00 ++ (wTx cI u7 P00)))))))) := hD9
  refine va_putF (D := (dC, dI)) (ci := 6) (v := .ref (u7 0)) (ty := tyX6 6) (C := RX6) (T := TX6) (N := 7) hx hb hts hin1 tyX6 tyX6_ok nmX6 hown hK hP hD hS 0 rfl rfl 6 (by decide) (hw_ hts 28 rfl) (fun _ h9 => h9) rfl hin rfl (tyX6_ok 6 (by decide)) rfl rfl (Nat.le_of_ble_eq_true rfl) dX6_init_86 (fun H21 locs hP hD hS => ?_)
  have hP : va_P (dC, dI) vwCl ([(h0, .inr (6, [.ref (u1 0), .ref (u2 0), .ref (u3 0), .ref o4, .ref (u5a 0), .ref (u6 0), .ref (u7 0)]))] ++ (wSt cI u1 S00 ++ (wSt cI u2 S00 ++ (wLo cI u3 P00 ++ ([(o4, .inr (2, [.ref (u1 0), .ref (u3 0)]))] ++ ((wHi cS u5a u5b P00 ++ wZs cI u5b (fun _ => S00)) ++ (wSn cI cZ u6 P00 ++ (wTx cI u7 P00)))))))) H21 := hP
  have hD : va_D A ([(h0, .inr (6, [.ref (u1 0), .ref (u2 0), .ref (u3 0), .ref o4, .ref (u5a 0), .ref (u6 0), .ref (u7 0)]))] ++ (wSt cI u1 S00 ++ (wSt cI u2 S00 ++ (wLo cI u3 P00 ++ ([(o4, .inr (2, [.ref (u1 0), .ref (u3 0)]))] ++ ((wHi cS u5a u5b P00 ++ wZs cI u5b (fun _ => S00)) ++ (wSn cI cZ u6 P00 ++ (wTx cI u7 P00)))))))) := hD
  have hP : va_P (dC, dI) vwCl (FW cI cZ cS (adr [h0]) u1 u2 u3 (adr [o4]) u5a u5b u6 u7) H21 := hP
  have hD : va_D A (FW cI cZ cS (adr [h0]) u1 u2 u3 (adr [o4]) u5a u5b u6 u7) := hD
  refine W.widen (k := 99) (n := 1879) (Nat.le_of_ble_eq_true rfl) (Nat.le_of_ble_eq_true rfl) ?_
  exact W.vret hx hb hr (fun t ht hW => ⟨⟨(adr [h0], u1, u2, u3, adr [o4], u5a, u5b, u6, u7), rfl, rfl, by rw [ht]; exact hP, hD⟩, hS.F ht⟩) hS.2.2 dX6_init_89
