abbrev rm_X6_planned : Room := { frames := 6, cells := 1, slots := 6, locals := 90 }
abbrev x_X6_planned (dC : Nat → ClassId) (dI : Nat → Nat → Nat) (cI cZ cS : ClassId) (aF aN aT aL aO aH : Nat → Nat) (ah : Nat → Nat → Nat) (aP aX : Nat → Nat)  (res : Int32 × Int32) (A : Nat → Prop) : String → State → State → Prop := vx_X (fun (_ : Unit) => True) (fun E u t => ∃ c : Int32, exN c = E ∧ ¬ c = 0 ∧ (c, (0 : Int32)) = res ∧ True) A
abbrev q_X6_planned (dC : Nat → ClassId) (dI : Nat → Nat → Nat) (cI cZ cS : ClassId) (aF aN aT aL aO aH : Nat → Nat) (ah : Nat → Nat → Nat) (aP aX : Nat → Nat)  (res : Int32 × Int32) (A : Nat → Prop) : Array Value → State → Outcome → State → Prop := va_Qi (fun (r : Int32) (u : Unit) => ((0 : Int32), r) = res) (fun _ _ => True) A
set_option maxHeartbeats 4000000 in
set_option maxRecDepth 100000 in
theorem met_X6_planned (l : Launch) (hfl : l.stackTraces = false) (dC : Nat → ClassId) (dI : Nat → Nat → Nat) (cI cZ cS : ClassId) (aF aN aT aL aO aH : Nat → Nat) (ah : Nat → Nat → Nat) (aP aX : Nat → Nat) (S : Pic) (base sz : Nat) (p1 : Int32) (p2 : Int32) : vx_Met l yX6_planned wsX6_planned rm_X6_planned (va_Pc [.ref (aF 0), .int p1, .int p2] (pX (dC, dI) (tyS cI cZ cS) (wFm aF aN aT aL aO aH aP aX ++ (wSt cI aN S)) base sz)) (q_X6_planned dC dI cI cZ cS aF aN aT aL aO aH ah aP aX (f6_planned S p1 p2) (a0 sz)) (x_X6_planned dC dI cI cZ cS aF aN aT aL aO aH ah aP aX (f6_planned S p1 p2) (a0 sz)) 1 6 (a0 sz) := by
  refine vx_ofW (cc := cX6_planned) (maxL := 3) (ret := (some .int)) (by decide) rfl ?_
  intro p e s m args below meth c s₁ B hml htab hv
  obtain ⟨rfl, hsz, hP, hK, hD0, hN, hbs, hXW⟩ := hv
  have hx := B.exec
  have hb := B.bytes
  have hr := B.returns
  have hts := atoms_spec (ws := wsX6_planned) B.pre
  have hown : s.vm.findClass RX6 = some m.cls := findClass_of_methodNamed B.named
  have hlocks := B.notSynchronized
  subst hsz
  have hD := hD0
  have hA : ∀ q : Nat, s.heap.size ≤ q → a0 s.heap.size q := fun q h => Or.inr h
  have hS : va_S (a0 s.heap.size) s.heap s.heap [] := va_S.rf
  have hAb : ∀ q, a0 s.heap.size q → base ≤ q := base_of (ws := []) (va_D_nil _) hbs
  have hU := hXW.2.1.narrow hAb
  have hNs := hXW.2.2.1.narrow hAb
  have hP : va_P (dC, dI) vwCl (wFm aF aN aT aL aO aH aP aX ++ (wSt cI aN S)) s.heap := hP
  generalize hR : f6_planned S p1 p2 = res
  rw [f6_planned] at hR
  have hin6 : ∀ w ∈ wsX60, w ∈ wsX6_planned := by decide +kernel
  have hin5 : ∀ w ∈ wsX50, w ∈ wsX6_planned := by decide +kernel
  have hl := lv_entry ([.ref (aF 0), .int p1, .int p2]) (n := 3) (Nat.le_of_ble_eq_true rfl)
  rw [lg_entry_eq]
  generalize (lg_sl ([.ref (aF 0), .int p1, .int p2]) ++ List.replicate (3 - (lg_sl ([.ref (aF 0), .int p1, .int p2])).length) Slot.unset).toArray = ls at hl ⊢
  have hl : lv_has ls 3 [(0, .ref (aF 0)), (1, .int p1), (2, .int p2)] := hl
  refine lv_iload_n hx hb dX6_planned_0 rfl (lv_at hl 1 rfl) ?_
  refine va_calli (va_runS (As := [.int p1]) (rest := []) ⟨hx, hb, hml, hown, hts⟩ (met_X6_isDay l dC dI cI cZ cS s.heap.size p1) (va_cwS 1 hts gX6_planned_X6_isDay rfl rfl rfl (by decide +kernel) ⟨Nat.le_of_ble_eq_true rfl, Nat.le_of_ble_eq_true rfl⟩) (pS (wc := []) hK hP hD hN [] rfl (by decide)) rfl rfl hl.1 rfl (lv_room (Nat.le_of_ble_eq_true rfl)) dX6_planned_1 ⟨Nat.zero_le _, Nat.zero_le _⟩) hS (fun q _ h => a0_in hS hA q h) (a0_in hS hA) (fun r1 u t H1 locs ht hvm hw hB hz1 hk1 hS => ?_)
  obtain ⟨hw, nb2⟩ := hw
  subst hw
  have hP := rdk hP hk1
  refine lv_if_eq (tgt := 14) hx hb dX6_planned_4 (by decide) (fun c_3 => ?_) (fun c_3 => ?_)
  · rw [if_pos c_3] at hR
    obtain ⟨sa, hsa⟩ := hXW.1 198 (by decide)
    exact vx_throwS (text := strT 198) (sa := sa) (A := (a0 s.heap.size)) (names := ["java/lang/RuntimeException", "java/lang/Exception"]) (cls := "java/lang/IndexOutOfBoundsException") hx hb hfl hown (by decide) (by decide) (hw_ hts 1 rfl) (hw_ hts 2 rfl) hsa (thr_at1 hXW (fun w h => hts w (List.mem_cons_of_mem _ (List.mem_append_right _ h)))) (by decide +kernel) hU hNs hS (hl.1.trans hml.symm) dX6_planned_14 dX6_planned_17 dX6_planned_18 dX6_planned_20 dX6_planned_23 (fun x hx => (htab x hx).elim) (Nat.lt_of_sub_pos (Nat.le_of_ble_eq_true rfl)) (Nat.le_of_ble_eq_true rfl) (Nat.le_of_ble_eq_true rfl) (Nat.le_of_ble_eq_true rfl) hlocks (fun t h1 h2 h3 => ⟨(), trivial, ⟨(1 : Int32), rfl, by decide, hR, trivial⟩, thr_F hS h2 h3⟩) hS.2.2 (Nat.le_of_ble_eq_true rfl) (Nat.le_of_ble_eq_true rfl)
  · rw [if_neg c_3] at hR
    refine lv_iload_n hx hb dX6_planned_7 rfl (lv_at hl 2 rfl) ?_
    refine va_calli (va_runS (As := [.int p2]) (rest := []) ⟨hx, hb, hml, hown, hts⟩ (met_X6_isPart l dC dI cI cZ cS H1.size p2) (va_cwS 1 hts gX6_planned_X6_isPart rfl rfl rfl (by decide +kernel) ⟨Nat.le_of_ble_eq_true rfl, Nat.le_of_ble_eq_true rfl⟩) (pS (wc := []) hK hP hD hN [] rfl (by decide)) rfl rfl hl.1 rfl (lv_room (Nat.le_of_ble_eq_true rfl)) dX6_planned_8 ⟨Nat.zero_le _, Nat.zero_le _⟩) hS (fun q _ h => a0_in hS hA q h) (a0_in hS hA) (fun r4 u t H2 locs ht hvm hw hB hz1 hk1 hS => ?_)
    obtain ⟨hw, nb5⟩ := hw
    subst hw
    have hP := rdk hP hk1
    refine lv_if_ne (tgt := 24) hx hb dX6_planned_11 (by decide) (fun c_6 => ?_) (fun c_6 => ?_)
    · rw [if_neg c_6] at hR
      refine lv_aload_n hx hb dX6_planned_24 rfl (lv_at hl 0 rfl) ?_
      refine va_get (D := (dC, dI)) (ci := 6) (v := .ref (aN 0)) (C := RX6) (T := TX6) (N := 7) hx hb hts hin6 hown hK hP 0 rfl rfl 0 (by decide) (hw_ hts 3 rfl) (fun _ h9 => h9) rfl dX6_planned_25 ?_
      refine va_get (D := (dC, dI)) (ci := 5) (v := .ref (aN 11)) (C := RX5) (T := TX5) (N := 12) hx hb hts hin5 hown hK hP 1 rfl rfl 11 (by decide) (hw_ hts 4 rfl) (fun _ h9 => h9) rfl dX6_planned_28 ?_
      refine lv_iload_n hx hb dX6_planned_31 rfl (lv_at hl 1 rfl) ?_
      refine lv_iload_n hx hb dX6_planned_32 rfl (lv_at hl 2 rfl) ?_
      refine va_calli (va_runS (As := [.int p1, .int p2]) (rest := [.ref (aN 11)]) ⟨hx, hb, hml, hown, hts⟩ (met_X6_cellOf l dC dI cI cZ cS H2.size p1 p2) (va_cwS 2 hts gX6_planned_X6_cellOf rfl rfl rfl (by decide +kernel) ⟨Nat.le_of_ble_eq_true rfl, Nat.le_of_ble_eq_true rfl⟩) (pS (wc := []) hK hP hD hN [] rfl (by decide)) rfl rfl hl.1 rfl (lv_room (Nat.le_of_ble_eq_true rfl)) dX6_planned_33 ⟨Nat.zero_le _, Nat.zero_le _⟩) hS (fun q _ h => a0_in hS hA q h) (a0_in hS hA) (fun r7 u t H3 locs ht hvm hw hB hz1 hk1 hS => ?_)
      subst hw
      have hP := rdk hP hk1
      refine va_calli (va_runS (As := [.ref (aN 11), .int (f6_cellOf p1 p2)]) (rest := []) ⟨hx, hb, hml, hown, hts⟩ (met_X6_at l dC dI cI cZ cS (aN 11) 84 (by decide) (S 11) H3.size (f6_cellOf p1 p2)) (va_cwS 2 hts gX6_planned_X6_at rfl rfl rfl (by decide +kernel) ⟨Nat.le_of_ble_eq_true rfl, Nat.le_of_ble_eq_true rfl⟩) (pS (wc := [((aN 11), .inl (cI, 84, .inl (S 11)))]) hK hP hD hN [11] rfl (by decide)) rfl rfl hl.1 rfl (lv_room (Nat.le_of_ble_eq_true rfl)) dX6_planned_36 ⟨Nat.zero_le _, Nat.zero_le _⟩) hS (fun q _ h => a0_in hS hA q h) (a0_in hS hA) (fun r8 u t H4 locs ht hvm hw hB hz1 hk1 hS => ?_)
      subst hw
      have hP := rdk hP hk1
      exact vx_ret (W.widen (k := 1) (n := 6) (Nat.zero_le _) (Nat.zero_le _) (W.iret (v := (f6_at 84 (S 11) (f6_cellOf p1 p2))) hx hb hr (fun t ht hW => ⟨⟨(f6_at 84 (S 11) (f6_cellOf p1 p2)), (), rfl, hR, trivial⟩, hS.F ht⟩) hS.2.2 dX6_planned_39))
    · rw [if_pos c_6] at hR
      obtain ⟨sa, hsa⟩ := hXW.1 198 (by decide)
      exact vx_throwS (text := strT 198) (sa := sa) (A := (a0 s.heap.size)) (names := ["java/lang/RuntimeException", "java/lang/Exception"]) (cls := "java/lang/IndexOutOfBoundsException") hx hb hfl hown (by decide) (by decide) (hw_ hts 1 rfl) (hw_ hts 2 rfl) hsa (thr_at1 hXW (fun w h => hts w (List.mem_cons_of_mem _ (List.mem_append_right _ h)))) (by decide +kernel) hU hNs hS (hl.1.trans hml.symm) dX6_planned_14 dX6_planned_17 dX6_planned_18 dX6_planned_20 dX6_planned_23 (fun x hx => (htab x hx).elim) (Nat.lt_of_sub_pos (Nat.le_of_ble_eq_true rfl)) (Nat.le_of_ble_eq_true rfl) (Nat.le_of_ble_eq_true rfl) (Nat.le_of_ble_eq_true rfl) hlocks (fun t h1 h2 h3 => ⟨(), trivial, ⟨(1 : Int32), rfl, by decide, hR, trivial⟩, thr_F hS h2 h3⟩) hS.2.2 (Nat.le_of_ble_eq_true rfl) (Nat.le_of_ble_eq_true rfl)
abbrev rm_X6_setting : Room := { frames := 6, cells := 1, slots := 6, locals := 90 }
abbrev x_X6_setting (dC : Nat → ClassId) (dI : Nat → Nat → Nat) (cI cZ cS : ClassId) (aF aN aT aL aO aH : Nat → Nat) (ah : Nat → Nat → Nat) (aP aX : Nat → Nat)  (res : Int32 × Int32) (A : Nat → Prop) : String → State → State → Prop := vx_X (fun (_ : Unit) => True) (fun E u t => ∃ c : Int32, exN c = E ∧ ¬ c = 0 ∧ (c, (0 : Int32)) = res ∧ True) A
abbrev q_X6_setting (dC : Nat → ClassId) (dI : Nat → Nat → Nat) (cI cZ cS : ClassId) (aF aN aT aL aO aH : Nat → Nat) (ah : Nat → Nat → Nat) (aP aX : Nat → Nat)  (res : Int32 × Int32) (A : Nat → Prop) : Array Value → State → Outcome → State → Prop := va_Qi (fun (r : Int32) (u : Unit) => ((0 : Int32), r) = res) (fun _ _ => True) A
set_option maxHeartbeats 4000000 in
set_option maxRecDepth 100000 in
theorem met_X6_setting (l : Launch) (hfl : l.stackTraces = false) (dC : Nat → ClassId) (dI : Nat → Nat → Nat) (cI cZ cS : ClassId) (aF aN aT aL aO aH : Nat → Nat) (ah : Nat → Nat → Nat) (aP aX : Nat → Nat) (S : Pic) (base sz : Nat) (p1 : Int32) : vx_Met l yX6_setting wsX6_setting rm_X6_setting (va_Pc [.ref (aF 0), .int p1] (pX (dC, dI) (tyS cI cZ cS) (wFm aF aN aT aL aO aH aP aX ++ (wSt cI aN S)) base sz)) (q_X6_setting dC dI cI cZ cS aF aN aT aL aO aH ah aP aX (f6_setting S p1) (a0 sz)) (x_X6_setting dC dI cI cZ cS aF aN aT aL aO aH ah aP aX (f6_setting S p1) (a0 sz)) 1 6 (a0 sz) := by
  refine vx_ofW (cc := cX6_setting) (maxL := 2) (ret := (some .int)) (by decide) rfl ?_
  intro p e s m args below meth c s₁ B hml htab hv
  obtain ⟨rfl, hsz, hP, hK, hD0, hN, hbs, hXW⟩ := hv
  have hx := B.exec
  have hb := B.bytes
  have hr := B.returns
  have hts := atoms_spec (ws := wsX6_setting) B.pre
  have hown : s.vm.findClass RX6 = some m.cls := findClass_of_methodNamed B.named
  have hlocks := B.notSynchronized
  subst hsz
  have hD := hD0
  have hA : ∀ q : Nat, s.heap.size ≤ q → a0 s.heap.size q := fun q h => Or.inr h
  have hS : va_S (a0 s.heap.size) s.heap s.heap [] := va_S.rf
  have hAb : ∀ q, a0 s.heap.size q → base ≤ q := base_of (ws := []) (va_D_nil _) hbs
  have hU := hXW.2.1.narrow hAb
  have hNs := hXW.2.2.1.narrow hAb
  have hP : va_P (dC, dI) vwCl (wFm aF aN aT aL aO aH aP aX ++ (wSt cI aN S)) s.heap := hP
  generalize hR : f6_setting S p1 = res
  rw [f6_setting] at hR
  have hin6 : ∀ w ∈ wsX60, w ∈ wsX6_setting := by decide +kernel
  have hin5 : ∀ w ∈ wsX50, w ∈ wsX6_setting := by decide +kernel
  have hl := lv_entry ([.ref (aF 0), .int p1]) (n := 2) (Nat.le_of_ble_eq_true rfl)
  rw [lg_entry_eq]
  generalize (lg_sl ([.ref (aF 0), .int p1]) ++ List.replicate (2 - (lg_sl ([.ref (aF 0), .int p1])).length) Slot.unset).toArray = ls at hl ⊢
  have hl : lv_has ls 2 [(0, .ref (aF 0)), (1, .int p1)] := hl
  refine lv_iload_n hx hb dX6_setting_0 rfl (lv_at hl 1 rfl) ?_
  refine lv_iconst (v := (0 : Int32)) hx hb dX6_setting_1 (by decide) ?_
  refine lv_iconst (v := (2 : Int32)) hx hb dX6_setting_2 (by decide) ?_
  refine va_calli (va_runS (As := [.int p1, .int (0 : Int32), .int (2 : Int32)]) (rest := []) ⟨hx, hb, hml, hown, hts⟩ (met_X6_isWithin l dC dI cI cZ cS s.heap.size p1 (0 : Int32) (2 : Int32)) (va_cwS 3 hts gX6_setting_X6_isWithin rfl rfl rfl (by decide +kernel) ⟨Nat.le_of_ble_eq_true rfl, Nat.le_of_ble_eq_true rfl⟩) (pS (wc := []) hK hP hD hN [] rfl (by decide)) rfl rfl hl.1 rfl (lv_room (Nat.le_of_ble_eq_true rfl)) dX6_setting_3 ⟨Nat.zero_le _, Nat.zero_le _⟩) hS (fun q _ h => a0_in hS hA q h) (a0_in hS hA) (fun r1 u t H1 locs ht hvm hw hB hz1 hk1 hS => ?_)
  obtain ⟨hw, nb2⟩ := hw
  subst hw
  have hP := rdk hP hk1
  refine lv_if_ne (tgt := 19) hx hb dX6_setting_6 (by decide) (fun c_3 => ?_) (fun c_3 => ?_)
  · rw [if_neg c_3] at hR
    refine lv_aload_n hx hb dX6_setting_19 rfl (lv_at hl 0 rfl) ?_
    refine va_get (D := (dC, dI)) (ci := 6) (v := .ref (aN 0)) (C := RX6) (T := TX6) (N := 7) hx hb hts hin6 hown hK hP 0 rfl rfl 0 (by decide) (hw_ hts 3 rfl) (fun _ h9 => h9) rfl dX6_setting_20 ?_
    refine va_get (D := (dC, dI)) (ci := 5) (v := .ref (aN 10)) (C := RX5) (T := TX5) (N := 12) hx hb hts hin5 hown hK hP 1 rfl rfl 10 (by decide) (hw_ hts 4 rfl) (fun _ h9 => h9) rfl dX6_setting_23 ?_
    refine lv_iload_n hx hb dX6_setting_26 rfl (lv_at hl 1 rfl) ?_
    refine va_calli (va_runS (As := [.ref (aN 10), .int p1]) (rest := []) ⟨hx, hb, hml, hown, hts⟩ (met_X6_at l dC dI cI cZ cS (aN 10) 3 (by decide) (S 10) H1.size p1) (va_cwS 2 hts gX6_setting_X6_at rfl rfl rfl (by decide +kernel) ⟨Nat.le_of_ble_eq_true rfl, Nat.le_of_ble_eq_true rfl⟩) (pS (wc := [((aN 10), .inl (cI, 3, .inl (S 10)))]) hK hP hD hN [10] rfl (by decide)) rfl rfl hl.1 rfl (lv_room (Nat.le_of_ble_eq_true rfl)) dX6_setting_27 ⟨Nat.zero_le _, Nat.zero_le _⟩) hS (fun q _ h => a0_in hS hA q h) (a0_in hS hA) (fun r4 u t H2 locs ht hvm hw hB hz1 hk1 hS => ?_)
    subst hw
    have hP := rdk hP hk1
    exact vx_ret (W.widen (k := 1) (n := 6) (Nat.zero_le _) (Nat.zero_le _) (W.iret (v := (f6_at 3 (S 10) p1)) hx hb hr (fun t ht hW => ⟨⟨(f6_at 3 (S 10) p1), (), rfl, hR, trivial⟩, hS.F ht⟩) hS.2.2 dX6_setting_30))
  · rw [if_pos c_3] at hR
    obtain ⟨sa, hsa⟩ := hXW.1 152 (by decide)
    exact vx_throwS (text := strT 152) (sa := sa) (A := (a0 s.heap.size)) (names := ["java/lang/RuntimeException", "java/lang/Exception"]) (cls := "java/lang/IndexOutOfBoundsException") hx hb hfl hown (by decide) (by decide) (hw_ hts 1 rfl) (hw_ hts 2 rfl) hsa (thr_at1 hXW (fun w h => hts w (List.mem_cons_of_mem _ (List.mem_append_right _ h)))) (by decide +kernel) hU hNs hS (hl.1.trans hml.symm) dX6_setting_9 dX6_setting_12 dX6_setting_13 dX6_setting_15 dX6_setting_18 (fun x hx => (htab x hx).elim) (Nat.lt_of_sub_pos (Nat.le_of_ble_eq_true rfl)) (Nat.le_of_ble_eq_true rfl) (Nat.le_of_ble_eq_true rfl) (Nat.le_of_ble_eq_true rfl) hlocks (fun t h1 h2 h3 => ⟨(), trivial, ⟨(1 : Int32), rfl, by decide, hR, trivial⟩, thr_F hS h2 h3⟩) hS.2.2 (Nat.le_of_ble_eq_true rfl) (Nat.le_of_ble_eq_true rfl)
abbrev rm_X6_guest : Room := { frames := 6, cells := 1, slots := 6, locals := 90 }
abbrev x_X6_guest (dC : Nat → ClassId) (dI : Nat → Nat → Nat) (cI cZ cS : ClassId) (aF aN aT aL aO aH : Nat → Nat) (ah : Nat → Nat → Nat) (aP aX : Nat → Nat)  (res : Int32 × Int32) (A : Nat → Prop) : String → State → State → Prop := vx_X (fun (_ : Unit) => True) (fun E u t => ∃ c : Int32, exN c = E ∧ ¬ c = 0 ∧ (c, (0 : Int32)) = res ∧ True) A
abbrev q_X6_guest (dC : Nat → ClassId) (dI : Nat → Nat → Nat) (cI cZ cS : ClassId) (aF aN aT aL aO aH : Nat → Nat) (ah : Nat → Nat → Nat) (aP aX : Nat → Nat)  (res : Int32 × Int32) (A : Nat → Prop) : Array Value → State → Outcome → State → Prop := va_Qi (fun (r : Int32) (u : Unit) => ((0 : Int32), r) = res) (fun _ _ => True) A
set_option maxHeartbeats 4000000 in
set_option maxRecDepth 100000 in
theorem met_X6_guest (l : Launch) (hfl : l.stackTraces = false) (dC : Nat → ClassId) (dI : Nat → Nat → Nat) (cI cZ cS : ClassId) (aF aN aT aL aO aH : Nat → Nat) (ah : Nat → Nat → Nat) (aP aX : Nat → Nat) (S : Pic) (base sz : Nat) (p1 : Int32) (p2 : Int32) : vx_Met l yX6_guest wsX6_guest rm_X6_guest (va_Pc [.ref (aF 0), .int p1, .int p2] (pX (dC, dI) (tyS cI cZ cS) (wFm aF aN aT aL aO aH aP aX ++ (wSt cI aN S)) base sz)) (q_X6_guest dC dI cI cZ cS aF aN aT aL aO aH ah aP aX (f6_guest S p1 p2) (a0 sz)) (x_X6_guest dC dI cI cZ cS aF aN aT aL aO aH ah aP aX (f6_guest S p1 p2) (a0 sz)) 1 6 (a0 sz) := by
  refine vx_ofW (cc := cX6_guest) (maxL := 3) (ret := (some .int)) (by decide) rfl ?_
  intro p e s m args below meth c s₁ B hml htab hv
  obtain ⟨rfl, hsz, hP, hK, hD0, hN, hbs, hXW⟩ := hv
  have hx := B.exec
  have hb := B.bytes
  have hr := B.returns
  have hts := atoms_spec (ws := wsX6_guest) B.pre
  have hown : s.vm.findClass RX6 = some m.cls := findClass_of_methodNamed B.named
  have hlocks := B.notSynchronized
  subst hsz
  have hD := hD0
  have hA : ∀ q : Nat, s.heap.size ≤ q → a0 s.heap.size q := fun q h => Or.inr h
  have hS : va_S (a0 s.heap.size) s.heap s.heap [] := va_S.rf
  have hAb : ∀ q, a0 s.heap.size q → base ≤ q := base_of (ws := []) (va_D_nil _) hbs
  have hU := hXW.2.1.narrow hAb
  have hNs := hXW.2.2.1.narrow hAb
  have hP : va_P (dC, dI) vwCl (wFm aF aN aT aL aO aH aP aX ++ (wSt cI aN S)) s.heap := hP
  generalize hR : f6_guest S p1 p2 = res
  rw [f6_guest] at hR
  have hin6 : ∀ w ∈ wsX60, w ∈ wsX6_guest := by decide +kernel
  have hl := lv_entry ([.ref (aF 0), .int p1, .int p2]) (n := 3) (Nat.le_of_ble_eq_true rfl)
  rw [lg_entry_eq]
  generalize (lg_sl ([.ref (aF 0), .int p1, .int p2]) ++ List.replicate (3 - (lg_sl ([.ref (aF 0), .int p1, .int p2])).length) Slot.unset).toArray = ls at hl ⊢
  have hl : lv_has ls 3 [(0, .ref (aF 0)), (1, .int p1), (2, .int p2)] := hl
  refine lv_aload_n hx hb dX6_guest_0 rfl (lv_at hl 0 rfl) ?_
  refine va_get (D := (dC, dI)) (ci := 6) (v := .ref (aN 0)) (C := RX6) (T := TX6) (N := 7) hx hb hts hin6 hown hK hP 0 rfl rfl 0 (by decide) (hw_ hts 5 rfl) (fun _ h9 => h9) rfl dX6_guest_1 ?_
  refine lv_iload_n hx hb dX6_guest_4 rfl (lv_at hl 1 rfl) ?_
  refine va_calli (va_runV (As := [.int p1]) (rest := []) ⟨hx, hb, hml, hown, hts⟩ (met_X5_hasGuest l dC dI cI cZ cS aN S s.heap.size p1) (cwV 1 hts gX6_guest_X5_hasGuest rfl rfl rfl (by decide +kernel) ⟨Nat.le_of_ble_eq_true rfl, Nat.le_of_ble_eq_true rfl⟩) (pV (wc := wSt cI aN S) (ci := 5) (q0 := 1) hK hP hD hN [1, 2, 3, 4, 5, 6, 7, 8, 9, 10, 11] rfl (by decide) rfl rfl) rfl rfl hl.1 rfl (lv_room (Nat.le_of_ble_eq_true rfl)) dX6_guest_5 ⟨Nat.zero_le _, Nat.zero_le _⟩) hS (fun q _ h => a0_in hS hA q h) (a0_in hS hA) (fun r1 u t H1 locs ht hvm hw hB hz1 hk1 hS => ?_)
  obtain ⟨hw, nb2⟩ := hw
  subst hw
  have hP := rdk hP hk1
  refine lv_if_ne (tgt := 21) hx hb dX6_guest_8 (by decide) (fun c_3 => ?_) (fun c_3 => ?_)
  · rw [if_neg c_3] at hR
    refine lv_iload_n hx hb dX6_guest_21 rfl (lv_at hl 2 rfl) ?_
    refine lv_iconst (v := (0 : Int32)) hx hb dX6_guest_22 (by decide) ?_
    refine lv_iconst (v := (2 : Int32)) hx hb dX6_guest_23 (by decide) ?_
    refine va_calli (va_runS (As := [.int p2, .int (0 : Int32), .int (2 : Int32)]) (rest := []) ⟨hx, hb, hml, hown, hts⟩ (met_X6_isWithin l dC dI cI cZ cS H1.size p2 (0 : Int32) (2 : Int32)) (va_cwS 3 hts gX6_guest_X6_isWithin rfl rfl rfl (by decide +kernel) ⟨Nat.le_of_ble_eq_true rfl, Nat.le_of_ble_eq_true rfl⟩) (pS (wc := []) hK hP hD hN [] rfl (by decide)) rfl rfl hl.1 rfl (lv_room (Nat.le_of_ble_eq_true rfl)) dX6_guest_24 ⟨Nat.zero_le _, Nat.zero_le _⟩) hS (fun q _ h => a0_in hS hA q h) (a0_in hS hA) (fun r4 u t H2 locs ht hvm hw hB hz1 hk1 hS => ?_)
    obtain ⟨hw, nb5⟩ := hw
    subst hw
    have hP := rdk hP hk1
    refine lv_if_ne (tgt := 41) hx hb dX6_guest_27 (by decide) (fun c_6 => ?_) (fun c_6 => ?_)
    · rw [if_neg c_6] at hR
      refine lv_aload_n hx hb dX6_guest_41 rfl (lv_at hl 0 rfl) ?_
      refine lv_iload_n hx hb dX6_guest_42 rfl (lv_at hl 1 rfl) ?_
      refine lv_iload_n hx hb dX6_guest_43 rfl (lv_at hl 2 rfl) ?_
      refine va_calli (va_runV (As := [.int p1, .int p2]) (rest := []) ⟨hx, hb, hml, hown, hts⟩ (met_X6_figureOfGuest l dC dI cI cZ cS aF aN aT aL aO aH ah aP aX S H2.size p1 p2) (cwV 2 hts gX6_guest_X6_figureOfGuest rfl rfl rfl (by decide +kernel) ⟨Nat.le_of_ble_eq_true rfl, Nat.le_of_ble_eq_true rfl⟩) (pV (wc := wFm aF aN aT aL aO aH aP aX ++ (wSt cI aN S)) (ci := 6) (q0 := 0) hK hP hD hN [0, 1, 2, 3, 4, 5, 6, 7, 8, 9, 10, 11] rfl (by decide) rfl rfl) rfl rfl hl.1 rfl (lv_room (Nat.le_of_ble_eq_true rfl)) dX6_guest_44 ⟨Nat.zero_le _, Nat.zero_le _⟩) hS (fun q _ h => a0_in hS hA q h) (a0_in hS hA) (fun r7 u t H3 locs ht hvm hw hB hz1 hk1 hS => ?_)
      have hR := bd_n hw hR
      have hP := rdk hP hk1
      exact vx_ret (W.widen (k := 1) (n := 6) (Nat.zero_le _) (Nat.zero_le _) (W.iret (v := r7) hx hb hr (fun t ht hW => ⟨⟨r7, (), rfl, hR, trivial⟩, hS.F ht⟩) hS.2.2 dX6_guest_47))
    · rw [if_pos c_6] at hR
      obtain ⟨sa, hsa⟩ := hXW.1 296 (by decide)
      exact vx_throwSW (text := strT 296) (sa := sa) (A := (a0 s.heap.size)) (names := ["java/lang/RuntimeException", "java/lang/Exception"]) (cls := "java/lang/IllegalArgumentException") hx hb hfl hown (by decide) (by decide) (hw_ hts 3 rfl) (hw_ hts 4 rfl) hsa (thr_at2 hXW (fun w h => hts w (List.mem_cons_of_mem _ (List.mem_append_right _ h)))) (by decide +kernel) hU hNs hS (hl.1.trans hml.symm) dX6_guest_30 dX6_guest_33 dX6_guest_34 dX6_guest_37 dX6_guest_40 (fun x hx => (htab x hx).elim) (Nat.lt_of_sub_pos (Nat.le_of_ble_eq_true rfl)) (Nat.le_of_ble_eq_true rfl) (Nat.le_of_ble_eq_true rfl) (Nat.le_of_ble_eq_true rfl) hlocks (fun t h1 h2 h3 => ⟨(), trivial, ⟨(2 : Int32), rfl, by decide, hR, trivial⟩, thr_F hS h2 h3⟩) hS.2.2 (Nat.le_of_ble_eq_true rfl) (Nat.le_of_ble_eq_true rfl)
  · rw [if_pos c_3] at hR
    obtain ⟨sa, hsa⟩ := hXW.1 134 (by decide)
    exact vx_throwS (text := strT 134) (sa := sa) (A := (a0 s.heap.size)) (names := ["java/lang/RuntimeException", "java/lang/Exception"]) (cls := "java/lang/IndexOutOfBoundsException") hx hb hfl hown (by decide) (by decide) (hw_ hts 1 rfl) (hw_ hts 2 rfl) hsa (thr_at1 hXW (fun w h => hts w (List.mem_cons_of_mem _ (List.mem_append_left _ (List.mem_append_right _ h))))) (by decide +kernel) hU hNs hS (hl.1.trans hml.symm) dX6_guest_11 dX6_guest_14 dX6_guest_15 dX6_guest_17 dX6_guest_20 (fun x hx => (htab x hx).elim) (Nat.lt_of_sub_pos (Nat.le_of_ble_eq_true rfl)) (Nat.le_of_ble_eq_true rfl) (Nat.le_of_ble_eq_true rfl) (Nat.le_of_ble_eq_true rfl) hlocks (fun t h1 h2 h3 => ⟨(), trivial, ⟨(1 : Int32), rfl, by decide, hR, trivial⟩, thr_F hS h2 h3⟩) hS.2.2 (Nat.le_of_ble_eq_true rfl) (Nat.le_of_ble_eq_true rfl)
abbrev rm_X6_addDish : Room := { frames := 6, cells := 1, slots := 6, locals := 90 }
abbrev x_X6_addDish (dC : Nat → ClassId) (dI : Nat → Nat → Nat) (cI cZ cS : ClassId) (aF aN aT aL aO aH : Nat → Nat) (ah : Nat → Nat → Nat) (aP aX : Nat → Nat)  (res : Int32 × Int32 × Pic × Pic × (Nat → Pic)) (A : Nat → Prop) : String → State → State → Prop := vx_X (fun (_ : Pic × Pic × (Nat → Pic)) => True) (fun E u t => ∃ c : Int32, exN c = E ∧ ¬ c = 0 ∧ (c, (0 : Int32), u) = res ∧ va_P (dC, dI) vwCl (wFm aF aN aT aL aO aH aP aX ++ (wSt cI aN u.1 ++ (wHi cS aH ah u.2.1 ++ (wZs cI ah u.2.2)))) t.heap) A
abbrev q_X6_addDish (dC : Nat → ClassId) (dI : Nat → Nat → Nat) (cI cZ cS : ClassId) (aF aN aT aL aO aH : Nat → Nat) (ah : Nat → Nat → Nat) (aP aX : Nat → Nat)  (res : Int32 × Int32 × Pic × Pic × (Nat → Pic)) (A : Nat → Prop) : Array Value → State → Outcome → State → Prop := va_Qi (fun (r : Int32) (u : Pic × Pic × (Nat → Pic)) => ((0 : Int32), r, u) = res) (fun u t => va_P (dC, dI) vwCl (wFm aF aN aT aL aO aH aP aX ++ (wSt cI aN u.1 ++ (wHi cS aH ah u.2.1 ++ (wZs cI ah u.2.2)))) t.heap) A
set_option maxHeartbeats 4000000 in
set_option maxRecDepth 100000 in
theorem met_X6_addDish (l : Launch) (hfl : l.stackTraces = false) (dC : Nat → ClassId) (dI : Nat → Nat → Nat) (cI cZ cS : ClassId) (aF aN aT aL aO aH : Nat → Nat) (ah : Nat → Nat → Nat) (aP aX : Nat → Nat) (S : Pic) (G : Pic) (Z : (Nat → Pic)) (base sz : Nat) (p1 : Int32) (p2 : Int32) (p3 : Int32) (p4 : Int32) : vx_Met l yX6_addDish wsX6_addDish rm_X6_addDish (va_Pc [.ref (aF 0), .int p1, .int p2, .int p3, .int p4] (pX (dC, dI) (tyS cI cZ cS) (wFm aF aN aT aL aO aH aP aX ++ (wSt cI aN S ++ (wHi cS aH ah G ++ (wZs cI ah Z)))) base sz)) (q_X6_addDish dC dI cI cZ cS aF aN aT aL aO aH ah aP aX (f6_addDish S G Z p1 p2 p3 p4) (va_A (wFm aF aN aT aL aO aH aP aX ++ (wSt cI aN S ++ (wHi cS aH ah G ++ (wZs cI ah Z)))) sz)) (x_X6_addDish dC dI cI cZ cS aF aN aT aL aO aH ah aP aX (f6_addDish S G Z p1 p2 p3 p4) (va_A (wFm aF aN aT aL aO aH aP aX ++ (wSt cI aN S ++ (wHi cS aH ah G ++ (wZs cI ah Z)))) sz)) 1 6 (va_A (wFm aF aN aT aL aO aH aP aX ++ (wSt cI aN S ++ (wHi cS aH ah G ++ (wZs cI ah Z)))) sz) := by
  refine vx_ofW (cc := cX6_addDish) (maxL := 5) (ret := (some .int)) (by decide) rfl ?_
  intro p e s m args below meth c s₁ B hml htab hv
  obtain ⟨rfl, hsz, hP, hK, hD0, hN, hbs, hXW⟩ := hv
  have hx := B.exec
  have hb := B.bytes
  have hr := B.returns
  have hts := atoms_spec (ws := wsX6_addDish) B.pre
  have hown : s.vm.findClass RX6 = some m.cls := findClass_of_methodNamed B.named
  have hlocks := B.notSynchronized
  subst hsz
  have hD := hD0.self (sz := s.heap.size)
  generalize hAe : va_A (wFm aF aN aT aL aO aH aP aX ++ (wSt cI aN S ++ (wHi cS aH ah G ++ (wZs cI ah Z)))) s.heap.size = A at hD ⊢
  have hA : ∀ q : Nat, s.heap.size ≤ q → A q := fun q h => by rw [← hAe]; exact Or.inr h
  have hS : va_S A s.heap s.heap [] := va_S.rf
  have hAb : ∀ q, A q → base ≤ q := fun q h => by rw [← hAe] at h; exact base_of hD0 hbs q h
  have hU := hXW.2.1.narrow hAb
  have hNs := hXW.2.2.1.narrow hAb
  have hP : va_P (dC, dI) vwCl (wFm aF aN aT aL aO aH aP aX ++ (wSt cI aN S ++ (wHi cS aH ah G ++ (wZs cI ah Z)))) s.heap := hP
  generalize hR : f6_addDish S G Z p1 p2 p3 p4 = res
  rw [f6_addDish] at hR
  have hin6 : ∀ w ∈ wsX60, w ∈ wsX6_addDish := by decide +kernel
  have hin5 : ∀ w ∈ wsX50, w ∈ wsX6_addDish := by decide +kernel
  have hl := lv_entry ([.ref (aF 0), .int p1, .int p2, .int p3, .int p4]) (n := 5) (Nat.le_of_ble_eq_true rfl)
  rw [lg_entry_eq]
  generalize (lg_sl ([.ref (aF 0), .int p1, .int p2, .int p3, .int p4]) ++ List.replicate (5 - (lg_sl ([.ref (aF 0), .int p1, .int p2, .int p3, .int p4])).length) Slot.unset).toArray = ls at hl ⊢
  have hl : lv_has ls 5 [(0, .ref (aF 0)), (1, .int p1), (2, .int p2), (3, .int p3), (4, .int p4)] := hl
  refine lv_iload_n hx hb dX6_addDish_0 rfl (lv_at hl 1 rfl) ?_
  refine lv_iconst (v := (0 : Int32)) hx hb dX6_addDish_1 (by decide) ?_
  refine lv_iconst (v := (2 : Int32)) hx hb dX6_addDish_2 (by decide) ?_
  refine va_calli (va_runS (As := [.int p1, .int (0 : Int32), .int (2 : Int32)]) (rest := []) ⟨hx, hb, hml, hown, hts⟩ (met_X6_isWithin l dC dI cI cZ cS s.heap.size p1 (0 : Int32) (2 : Int32)) (va_cwS 3 hts gX6_addDish_X6_isWithin rfl rfl rfl (by decide +kernel) ⟨Nat.le_of_ble_eq_true rfl, Nat.le_of_ble_eq_true rfl⟩) (pS (wc := []) hK hP hD hN [] rfl (by decide)) rfl rfl hl.1 rfl (lv_room (Nat.le_of_ble_eq_true rfl)) dX6_addDish_3 ⟨Nat.zero_le _, Nat.zero_le _⟩) hS (fun q _ h => a0_in hS hA q h) (a0_in hS hA) (fun r1 u t H1 locs ht hvm hw hB hz1 hk1 hS => ?_)
  obtain ⟨hw, nb2⟩ := hw
  subst hw
  have hP := rdk hP hk1
  refine lv_if_eq (tgt := 39) hx hb dX6_addDish_6 (by decide) (fun c_3 => ?_) (fun c_3 => ?_)
  · rw [if_pos c_3] at hR
    obtain ⟨sa, hsa⟩ := hXW.1 62 (by decide)
    exact vx_throwS (text := strT 62) (sa := sa) (A := A) (names := ["java/lang/RuntimeException", "java/lang/Exception"]) (cls := "java/lang/IllegalArgumentException") hx hb hfl hown (by decide) (by decide) (hw_ hts 1 rfl) (hw_ hts 2 rfl) hsa (thr_at2 hXW (fun w h => hts w (List.mem_cons_of_mem _ (List.mem_append_left _ (List.mem_append_right _ h))))) (by decide +kernel) hU hNs hS (hl.1.trans hml.symm) dX6_addDish_39 dX6_addDish_42 dX6_addDish_43 dX6_addDish_45 dX6_addDish_48 (fun x hx => (htab x hx).elim) (Nat.lt_of_sub_pos (Nat.le_of_ble_eq_true rfl)) (Nat.le_of_ble_eq_true rfl) (Nat.le_of_ble_eq_true rfl) (Nat.le_of_ble_eq_true rfl) hlocks (fun t h1 h2 h3 => ⟨(S, G, Z), trivial, ⟨(2 : Int32), rfl, by decide, hR, thr_P hP h3⟩, thr_F hS h2 h3⟩) hS.2.2 (Nat.le_of_ble_eq_true rfl) (Nat.le_of_ble_eq_true rfl)
  · rw [if_neg c_3] at hR
    refine lv_iload_n hx hb dX6_addDish_9 rfl (lv_at hl 2 rfl) ?_
    refine lv_iconst (v := (0 : Int32)) hx hb dX6_addDish_10 (by decide) ?_
    refine lv_bipush (v := (30 : Int32)) hx hb dX6_addDish_11 (by decide) ?_
    refine va_calli (va_runS (As := [.int p2, .int (0 : Int32), .int (30 : Int32)]) (rest := []) ⟨hx, hb, hml, hown, hts⟩ (met_X6_isWithin l dC dI cI cZ cS H1.size p2 (0 : Int32) (30 : Int32)) (va_cwS 3 hts gX6_addDish_X6_isWithin rfl rfl rfl (by decide +kernel) ⟨Nat.le_of_ble_eq_true rfl, Nat.le_of_ble_eq_true rfl⟩) (pS (wc := []) hK hP hD hN [] rfl (by decide)) rfl rfl hl.1 rfl (lv_room (Nat.le_of_ble_eq_true rfl)) dX6_addDish_13 ⟨Nat.zero_le _, Nat.zero_le _⟩) hS (fun q _ h => a0_in hS hA q h) (a0_in hS hA) (fun r4 u t H2 locs ht hvm hw hB hz1 hk1 hS => ?_)
    obtain ⟨hw, nb5⟩ := hw
    subst hw
    have hP := rdk hP hk1
    refine lv_if_eq (tgt := 39) hx hb dX6_addDish_16 (by decide) (fun c_6 => ?_) (fun c_6 => ?_)
    · rw [if_pos c_6] at hR
      obtain ⟨sa, hsa⟩ := hXW.1 62 (by decide)
      exact vx_throwS (text := strT 62) (sa := sa) (A := A) (names := ["java/lang/RuntimeException", "java/lang/Exception"]) (cls := "java/lang/IllegalArgumentException") hx hb hfl hown (by decide) (by decide) (hw_ hts 1 rfl) (hw_ hts 2 rfl) hsa (thr_at2 hXW (fun w h => hts w (List.mem_cons_of_mem _ (List.mem_append_left _ (List.mem_append_right _ h))))) (by decide +kernel) hU hNs hS (hl.1.trans hml.symm) dX6_addDish_39 dX6_addDish_42 dX6_addDish_43 dX6_addDish_45 dX6_addDish_48 (fun x hx => (htab x hx).elim) (Nat.lt_of_sub_pos (Nat.le_of_ble_eq_true rfl)) (Nat.le_of_ble_eq_true rfl) (Nat.le_of_ble_eq_true rfl) (Nat.le_of_ble_eq_true rfl) hlocks (fun t h1 h2 h3 => ⟨(S, G, Z), trivial, ⟨(2 : Int32), rfl, by decide, hR, thr_P hP h3⟩, thr_F hS h2 h3⟩) hS.2.2 (Nat.le_of_ble_eq_true rfl) (Nat.le_of_ble_eq_true rfl)
    · rw [if_neg c_6] at hR
      refine lv_iload_n hx hb dX6_addDish_19 rfl (lv_at hl 3 rfl) ?_
      refine lv_iconst (v := (0 : Int32)) hx hb dX6_addDish_20 (by decide) ?_
      refine lv_iconst (v := (5 : Int32)) hx hb dX6_addDish_21 (by decide) ?_
      refine va_calli (va_runS (As := [.int p3, .int (0 : Int32), .int (5 : Int32)]) (rest := []) ⟨hx, hb, hml, hown, hts⟩ (met_X6_isWithin l dC dI cI cZ cS H2.size p3 (0 : Int32) (5 : Int32)) (va_cwS 3 hts gX6_addDish_X6_isWithin rfl rfl rfl (by decide +kernel) ⟨Nat.le_of_ble_eq_true rfl, Nat.le_of_ble_eq_true rfl⟩) (pS (wc := []) hK hP hD hN [] rfl (by decide)) rfl rfl hl.1 rfl (lv_room (Nat.le_of_ble_eq_true rfl)) dX6_addDish_22 ⟨Nat.zero_le _, Nat.zero_le _⟩) hS (fun q _ h => a0_in hS hA q h) (a0_in hS hA) (fun r7 u t H3 locs ht hvm hw hB hz1 hk1 hS => ?_)
      obtain ⟨hw, nb8⟩ := hw
      subst hw
      have hP := rdk hP hk1
      refine lv_if_eq (tgt := 39) hx hb dX6_addDish_25 (by decide) (fun c_9 => ?_) (fun c_9 => ?_)
      · rw [if_pos c_9] at hR
        obtain ⟨sa, hsa⟩ := hXW.1 62 (by decide)
        exact vx_throwS (text := strT 62) (sa := sa) (A := A) (names := ["java/lang/RuntimeException", "java/lang/Exception"]) (cls := "java/lang/IllegalArgumentException") hx hb hfl hown (by decide) (by decide) (hw_ hts 1 rfl) (hw_ hts 2 rfl) hsa (thr_at2 hXW (fun w h => hts w (List.mem_cons_of_mem _ (List.mem_append_left _ (List.mem_append_right _ h))))) (by decide +kernel) hU hNs hS (hl.1.trans hml.symm) dX6_addDish_39 dX6_addDish_42 dX6_addDish_43 dX6_addDish_45 dX6_addDish_48 (fun x hx => (htab x hx).elim) (Nat.lt_of_sub_pos (Nat.le_of_ble_eq_true rfl)) (Nat.le_of_ble_eq_true rfl) (Nat.le_of_ble_eq_true rfl) (Nat.le_of_ble_eq_true rfl) hlocks (fun t h1 h2 h3 => ⟨(S, G, Z), trivial, ⟨(2 : Int32), rfl, by decide, hR, thr_P hP h3⟩, thr_F hS h2 h3⟩) hS.2.2 (Nat.le_of_ble_eq_true rfl) (Nat.le_of_ble_eq_true rfl)
      · rw [if_neg c_9] at hR
        refine lv_iload hx hb dX6_addDish_28 (lv_at hl 4 rfl) ?_
        refine lv_iconst (v := (1 : Int32)) hx hb dX6_addDish_30 (by decide) ?_
        refine lv_bipush (v := (9 : Int32)) hx hb dX6_addDish_31 (by decide) ?_
        refine va_calli (va_runS (As := [.int p4, .int (1 : Int32), .int (9 : Int32)]) (rest := []) ⟨hx, hb, hml, hown, hts⟩ (met_X6_isWithin l dC dI cI cZ cS H3.size p4 (1 : Int32) (9 : Int32)) (va_cwS 3 hts gX6_addDish_X6_isWithin rfl rfl rfl (by decide +kernel) ⟨Nat.le_of_ble_eq_true rfl, Nat.le_of_ble_eq_true rfl⟩) (pS (wc := []) hK hP hD hN [] rfl (by decide)) rfl rfl hl.1 rfl (lv_room (Nat.le_of_ble_eq_true rfl)) dX6_addDish_33 ⟨Nat.zero_le _, Nat.zero_le _⟩) hS (fun q _ h => a0_in hS hA q h) (a0_in hS hA) (fun r10 u t H4 locs ht hvm hw hB hz1 hk1 hS => ?_)
        obtain ⟨hw, nb11⟩ := hw
        subst hw
        have hP := rdk hP hk1
        refine lv_if_ne (tgt := 49) hx hb dX6_addDish_36 (by decide) (fun c_12 => ?_) (fun c_12 => ?_)
        · rw [if_neg c_12] at hR
          refine lv_aload_n hx hb dX6_addDish_49 rfl (lv_at hl 0 rfl) ?_
          refine va_get (D := (dC, dI)) (ci := 6) (v := .ref (aN 0)) (C := RX6) (T := TX6) (N := 7) hx hb hts hin6 hown hK hP 0 rfl rfl 0 (by decide) (hw_ hts 5 rfl) (fun _ h9 => h9) rfl dX6_addDish_50 ?_
          refine va_get (D := (dC, dI)) (ci := 5) (v := .int ((S 0) 0)) (C := RX5) (T := TX5) (N := 12) hx hb hts hin5 hown hK hP 1 rfl rfl 0 (by decide) (hw_ hts 6 rfl) (fun _ h9 => h9) rfl dX6_addDish_53 ?_
          refine lv_bipush (v := (12 : Int32)) hx hb dX6_addDish_56 (by decide) ?_
          refine lv_icmp_lt (tgt := 71) hx hb dX6_addDish_58 (by decide) (fun c_13 => ?_) (fun c_13 => ?_)
          · rw [if_pos c_13] at hR
            refine lv_aload_n hx hb dX6_addDish_71 rfl (lv_at hl 0 rfl) ?_
            refine va_get (D := (dC, dI)) (ci := 6) (v := .ref (aH 0)) (C := RX6) (T := TX6) (N := 7) hx hb hts hin6 hown hK hP 0 rfl rfl 4 (by decide) (hw_ hts 7 rfl) (fun _ h9 => h9) rfl dX6_addDish_72 ?_
            refine lv_aload_n hx hb dX6_addDish_75 rfl (lv_at hl 0 rfl) ?_
            refine va_get (D := (dC, dI)) (ci := 6) (v := .ref (aN 0)) (C := RX6) (T := TX6) (N := 7) hx hb hts hin6 hown hK hP 0 rfl rfl 0 (by decide) (hw_ hts 5 rfl) (fun _ h9 => h9) rfl dX6_addDish_76 ?_
            have hF := va_free (wc := wHi cS aH ah G ++ (wZs cI ah Z ++ (wSt cI aN S))) hD hS hA [12, 13, 14, 15, 16, 17, 18, 19, 20, 21, 22, 23, 24, 25, 26, 27, 28, 29, 30, 31, 32, 33, 34, 35, 36, 37, 38, 39, 40, 41, 42, 43, 44, 45, 46, 47, 48, 49, 50, 51, 52, 53, 54, 55, 56, 57, 58, 59, 60, 61, 62, 63, 64, 65, 66, 67, 68, 69, 70, 71, 72, 73, 74, 75, 76, 77, 78, 79, 1, 2, 3, 4, 5, 6, 7, 8, 9, 10, 11] rfl
            refine va_callv (va_runV (As := [.ref (aN 0)]) (rest := []) ⟨hx, hb, hml, hown, hts⟩ (met_X0_save l dC dI cI cZ cS aH ah aN G Z S H4.size) (cwV 1 hts gX6_addDish_X0_save rfl rfl rfl (by decide +kernel) ⟨Nat.le_of_ble_eq_true rfl, Nat.le_of_ble_eq_true rfl⟩) (pV (wc := wHi cS aH ah G ++ (wZs cI ah Z ++ (wSt cI aN S))) (ci := 0) (q0 := 12) hK hP hD hN [12, 13, 14, 15, 16, 17, 18, 19, 20, 21, 22, 23, 24, 25, 26, 27, 28, 29, 30, 31, 32, 33, 34, 35, 36, 37, 38, 39, 40, 41, 42, 43, 44, 45, 46, 47, 48, 49, 50, 51, 52, 53, 54, 55, 56, 57, 58, 59, 60, 61, 62, 63, 64, 65, 66, 67, 68, 69, 70, 71, 72, 73, 74, 75, 76, 77, 78, 79, 1, 2, 3, 4, 5, 6, 7, 8, 9, 10, 11] rfl (by decide) rfl rfl) rfl rfl hl.1 rfl (lv_room (Nat.le_of_ble_eq_true rfl)) dX6_addDish_79 ⟨Nat.zero_le _, Nat.zero_le _⟩) hS (fun q _ h => hF q h) hF (fun  u t H5 locs ht hvm hw hB hz1 hk1 hS => ?_)
            obtain ⟨u14, u15⟩ := u
            try dsimp only at hw hB
            rw [ht] at hB
            have hR := bd2_n hw hR
            have hP := wrk2 (w2 := wFm aF aN aT aL aO aH aP aX ++ (wSt cI aN S ++ (wHi cS aH ah u14 ++ (wZs cI ah u15)))) (wr := wFm aF aN aT aL aO aH aP aX) hP hD [12, 13, 14, 15, 16, 17, 18, 19, 20, 21, 22, 23, 24, 25, 26, 27, 28, 29, 30, 31, 32, 33, 34, 35, 36, 37, 38, 39, 40, 41, 42, 43, 44, 45, 46, 47, 48, 49, 50, 51, 52, 53, 54, 55, 56, 57, 58, 59, 60, 61, 62, 63, 64, 65, 66, 67, 68, 69, 70, 71, 72, 73, 74, 75, 76, 77, 78, 79, 1, 2, 3, 4, 5, 6, 7, 8, 9, 10, 11] [0] rfl rfl (by decide) hk1 hB [0, 69, 70, 71, 72, 73, 74, 75, 76, 77, 78, 79, 1, 2, 3, 4, 5, 6, 7, 8, 9, 10, 11, 12, 13, 14, 15, 16, 17, 18, 19, 20, 21, 22, 23, 24, 25, 26, 27, 28, 29, 30, 31, 32, 33, 34, 35, 36, 37, 38, 39, 40, 41, 42, 43, 44, 45, 46, 47, 48, 49, 50, 51, 52, 53, 54, 55, 56, 57, 58, 59, 60, 61, 62, 63, 64, 65, 66, 67, 68] rfl
            have hD := D_addr (w1 := wFm aF aN aT aL aO aH aP aX ++ (wSt cI aN S ++ (wHi cS aH ah u14 ++ (wZs cI ah u15)))) hD rfl
            refine lv_aload_n hx hb dX6_addDish_82 rfl (lv_at hl 0 rfl) ?_
            refine va_get (D := (dC, dI)) (ci := 6) (v := .ref (aN 0)) (C := RX6) (T := TX6) (N := 7) hx hb hts hin6 hown hK hP 0 rfl rfl 0 (by decide) (hw_ hts 5 rfl) (fun _ h9 => h9) rfl dX6_addDish_83 ?_
            refine lv_iload_n hx hb dX6_addDish_86 rfl (lv_at hl 1 rfl) ?_
            refine lv_iload_n hx hb dX6_addDish_87 rfl (lv_at hl 2 rfl) ?_
            refine lv_iload_n hx hb dX6_addDish_88 rfl (lv_at hl 3 rfl) ?_
            refine lv_iload hx hb dX6_addDish_89 (lv_at hl 4 rfl) ?_
            have hF := va_free (wc := wSt cI aN S) hD hS hA [1, 2, 3, 4, 5, 6, 7, 8, 9, 10, 11] rfl
            refine va_calli (va_runV (As := [.int p1, .int p2, .int p3, .int p4]) (rest := []) ⟨hx, hb, hml, hown, hts⟩ (met_X5_newDish l dC dI cI cZ cS aN S H5.size p1 p2 p3 p4) (cwV 4 hts gX6_addDish_X5_newDish rfl rfl rfl (by decide +kernel) ⟨Nat.le_of_ble_eq_true rfl, Nat.le_of_ble_eq_true rfl⟩) (pV (wc := wSt cI aN S) (ci := 5) (q0 := 1) hK hP hD hN [1, 2, 3, 4, 5, 6, 7, 8, 9, 10, 11] rfl (by decide) rfl rfl) rfl rfl hl.1 rfl (lv_room (Nat.le_of_ble_eq_true rfl)) dX6_addDish_91 ⟨Nat.zero_le _, Nat.zero_le _⟩) hS (fun q _ h => hF q h) hF (fun r16 u17 t H6 locs ht hvm hw hB hz1 hk1 hS => ?_)
            try dsimp only at hw hB
            rw [ht] at hB
            have hR := bd2_n hw hR
            have hP := wrk2 (w2 := wFm aF aN aT aL aO aH aP aX ++ (wSt cI aN u17 ++ (wHi cS aH ah u14 ++ (wZs cI ah u15)))) (wr := wFm aF aN aT aL aO aH aP aX ++ (wHi cS aH ah u14 ++ (wZs cI ah u15))) hP hD [1, 2, 3, 4, 5, 6, 7, 8, 9, 10, 11] [0, 12, 13, 14, 15, 16, 17, 18, 19, 20, 21, 22, 23, 24, 25, 26, 27, 28, 29, 30, 31, 32, 33, 34, 35, 36, 37, 38, 39, 40, 41, 42, 43, 44, 45, 46, 47, 48, 49, 50, 51, 52, 53, 54, 55, 56, 57, 58, 59, 60, 61, 62, 63, 64, 65, 66, 67, 68, 69, 70, 71, 72, 73, 74, 75, 76, 77, 78, 79] rfl rfl (by decide) hk1 hB [0, 69, 70, 71, 72, 73, 74, 75, 76, 77, 78, 79, 1, 2, 3, 4, 5, 6, 7, 8, 9, 10, 11, 12, 13, 14, 15, 16, 17, 18, 19, 20, 21, 22, 23, 24, 25, 26, 27, 28, 29, 30, 31, 32, 33, 34, 35, 36, 37, 38, 39, 40, 41, 42, 43, 44, 45, 46, 47, 48, 49, 50, 51, 52, 53, 54, 55, 56, 57, 58, 59, 60, 61, 62, 63, 64, 65, 66, 67, 68] rfl
            have hD := D_addr (w1 := wFm aF aN aT aL aO aH aP aX ++ (wSt cI aN u17 ++ (wHi cS aH ah u14 ++ (wZs cI ah u15)))) hD rfl
            exact vx_ret (W.widen (k := 1) (n := 6) (Nat.zero_le _) (Nat.zero_le _) (W.iret (v := r16) hx hb hr (fun t ht hW => ⟨⟨r16, (u17, u14, u15), rfl, hR, P_at ht hP⟩, hS.F ht⟩) hS.2.2 dX6_addDish_94))
          · rw [if_neg c_13] at hR
            obtain ⟨sa, hsa⟩ := hXW.1 73 (by decide)
            exact vx_throwS (text := strT 73) (sa := sa) (A := A) (names := ["java/lang/RuntimeException", "java/lang/Exception"]) (cls := "java/lang/IllegalStateException") hx hb hfl hown (by decide) (by decide) (hw_ hts 3 rfl) (hw_ hts 4 rfl) hsa (thr_at3 hXW (fun w h => hts w (List.mem_cons_of_mem _ (List.mem_append_right _ h)))) (by decide +kernel) hU hNs hS (hl.1.trans hml.symm) dX6_addDish_61 dX6_addDish_64 dX6_addDish_65 dX6_addDish_67 dX6_addDish_70 (fun x hx => (htab x hx).elim) (Nat.lt_of_sub_pos (Nat.le_of_ble_eq_true rfl)) (Nat.le_of_ble_eq_true rfl) (Nat.le_of_ble_eq_true rfl) (Nat.le_of_ble_eq_true rfl) hlocks (fun t h1 h2 h3 => ⟨(S, G, Z), trivial, ⟨(3 : Int32), rfl, by decide, hR, thr_P hP h3⟩, thr_F hS h2 h3⟩) hS.2.2 (Nat.le_of_ble_eq_true rfl) (Nat.le_of_ble_eq_true rfl)
        · rw [if_pos c_12] at hR
          obtain ⟨sa, hsa⟩ := hXW.1 62 (by decide)
          exact vx_throwS (text := strT 62) (sa := sa) (A := A) (names := ["java/lang/RuntimeException", "java/lang/Exception"]) (cls := "java/lang/IllegalArgumentException") hx hb hfl hown (by decide) (by decide) (hw_ hts 1 rfl) (hw_ hts 2 rfl) hsa (thr_at2 hXW (fun w h => hts w (List.mem_cons_of_mem _ (List.mem_append_left _ (List.mem_append_right _ h))))) (by decide +kernel) hU hNs hS (hl.1.trans hml.symm) dX6_addDish_39 dX6_addDish_42 dX6_addDish_43 dX6_addDish_45 dX6_addDish_48 (fun x hx => (htab x hx).elim) (Nat.lt_of_sub_pos (Nat.le_of_ble_eq_true rfl)) (Nat.le_of_ble_eq_true rfl) (Nat.le_of_ble_eq_true rfl) (Nat.le_of_ble_eq_true rfl) hlocks (fun t h1 h2 h3 => ⟨(S, G, Z), trivial, ⟨(2 : Int32), rfl, by decide, hR, thr_P hP h3⟩, thr_F hS h2 h3⟩) hS.2.2 (Nat.le_of_ble_eq_true rfl) (Nat.le_of_ble_eq_true rfl)
abbrev rm_X6_addGuest : Room := { frames := 6, cells := 1, slots := 6, locals := 90 }
abbrev x_X6_addGuest (dC : Nat → ClassId) (dI : Nat → Nat → Nat) (cI cZ cS : ClassId) (aF aN aT aL aO aH : Nat → Nat) (ah : Nat → Nat → Nat) (aP aX : Nat → Nat)  (res : Int32 × Int32 × Pic × Pic × (Nat → Pic)) (A : Nat → Prop) : String → State → State → Prop := vx_X (fun (_ : Pic × Pic × (Nat → Pic)) => True) (fun E u t => ∃ c : Int32, exN c = E ∧ ¬ c = 0 ∧ (c, (0 : Int32), u) = res ∧ va_P (dC, dI) vwCl (wFm aF aN aT aL aO aH aP aX ++ (wSt cI aN u.1 ++ (wHi cS aH ah u.2.1 ++ (wZs cI ah u.2.2)))) t.heap) A
abbrev q_X6_addGuest (dC : Nat → ClassId) (dI : Nat → Nat → Nat) (cI cZ cS : ClassId) (aF aN aT aL aO aH : Nat → Nat) (ah : Nat → Nat → Nat) (aP aX : Nat → Nat)  (res : Int32 × Int32 × Pic × Pic × (Nat → Pic)) (A : Nat → Prop) : Array Value → State → Outcome → State → Prop := va_Qi (fun (r : Int32) (u : Pic × Pic × (Nat → Pic)) => ((0 : Int32), r, u) = res) (fun u t => va_P (dC, dI) vwCl (wFm aF aN aT aL aO aH aP aX ++ (wSt cI aN u.1 ++ (wHi cS aH ah u.2.1 ++ (wZs cI ah u.2.2)))) t.heap) A
set_option maxHeartbeats 4000000 in
set_option maxRecDepth 100000 in
theorem met_X6_addGuest (l : Launch) (hfl : l.stackTraces = false) (dC : Nat → ClassId) (dI : Nat → Nat → Nat) (cI cZ cS : ClassId) (aF aN aT aL aO aH : Nat → Nat) (ah : Nat → Nat → Nat) (aP aX : Nat → Nat) (S : Pic) (G : Pic) (Z : (Nat → Pic)) (base sz : Nat)  : vx_Met l yX6_addGuest wsX6_addGuest rm_X6_addGuest (va_Pc [.ref (aF 0)] (pX (dC, dI) (tyS cI cZ cS) (wFm aF aN aT aL aO aH aP aX ++ (wSt cI aN S ++ (wHi cS aH ah G ++ (wZs cI ah Z)))) base sz)) (q_X6_addGuest dC dI cI cZ cS aF aN aT aL aO aH ah aP aX (f6_addGuest S G Z) (va_A (wFm aF aN aT aL aO aH aP aX ++ (wSt cI aN S ++ (wHi cS aH ah G ++ (wZs cI ah Z)))) sz)) (x_X6_addGuest dC dI cI cZ cS aF aN aT aL aO aH ah aP aX (f6_addGuest S G Z) (va_A (wFm aF aN aT aL aO aH aP aX ++ (wSt cI aN S ++ (wHi cS aH ah G ++ (wZs cI ah Z)))) sz)) 1 6 (va_A (wFm aF aN aT aL aO aH aP aX ++ (wSt cI aN S ++ (wHi cS aH ah G ++ (wZs cI ah Z)))) sz) := by
  refine vx_ofW (cc := cX6_addGuest) (maxL := 1) (ret := (some .int)) (by decide) rfl ?_
  intro p e s m args below meth c s₁ B hml htab hv
  obtain ⟨rfl, hsz, hP, hK, hD0, hN, hbs, hXW⟩ := hv
  have hx := B.exec
  have hb := B.bytes
  have hr := B.returns
  have hts := atoms_spec (ws := wsX6_addGuest) B.pre
  have hown : s.vm.findClass RX6 = some m.cls := findClass_of_methodNamed B.named
  have hlocks := B.notSynchronized
  subst hsz
  have hD := hD0.self (sz := s.heap.size)
  generalize hAe : va_A (wFm aF aN aT aL aO aH aP aX ++ (wSt cI aN S ++ (wHi cS aH ah G ++ (wZs cI ah Z)))) s.heap.size = A at hD ⊢
  have hA : ∀ q : Nat, s.heap.size ≤ q → A q := fun q h => by rw [← hAe]; exact Or.inr h
  have hS : va_S A s.heap s.heap [] := va_S.rf
  have hAb : ∀ q, A q → base ≤ q := fun q h => by rw [← hAe] at h; exact base_of hD0 hbs q h
  have hU := hXW.2.1.narrow hAb
  have hNs := hXW.2.2.1.narrow hAb
  have hP : va_P (dC, dI) vwCl (wFm aF aN aT aL aO aH aP aX ++ (wSt cI aN S ++ (wHi cS aH ah G ++ (wZs cI ah Z)))) s.heap := hP
  generalize hR : f6_addGuest S G Z = res
  rw [f6_addGuest] at hR
  have hin6 : ∀ w ∈ wsX60, w ∈ wsX6_addGuest := by decide +kernel
  have hin5 : ∀ w ∈ wsX50, w ∈ wsX6_addGuest := by decide +kernel
  have hl := lv_entry ([.ref (aF 0)]) (n := 1) (Nat.le_of_ble_eq_true rfl)
  rw [lg_entry_eq]
  generalize (lg_sl ([.ref (aF 0)]) ++ List.replicate (1 - (lg_sl ([.ref (aF 0)])).length) Slot.unset).toArray = ls at hl ⊢
  have hl : lv_has ls 1 [(0, .ref (aF 0))] := hl
  refine lv_aload_n hx hb dX6_addGuest_0 rfl (lv_at hl 0 rfl) ?_
  refine va_get (D := (dC, dI)) (ci := 6) (v := .ref (aN 0)) (C := RX6) (T := TX6) (N := 7) hx hb hts hin6 hown hK hP 0 rfl rfl 0 (by decide) (hw_ hts 3 rfl) (fun _ h9 => h9) rfl dX6_addGuest_1 ?_
  refine va_get (D := (dC, dI)) (ci := 5) (v := .int ((S 7) 0)) (C := RX5) (T := TX5) (N := 12) hx hb hts hin5 hown hK hP 1 rfl rfl 7 (by decide) (hw_ hts 4 rfl) (fun _ h9 => h9) rfl dX6_addGuest_4 ?_
  refine lv_bipush (v := (6 : Int32)) hx hb dX6_addGuest_7 (by decide) ?_
  refine lv_icmp_lt (tgt := 22) hx hb dX6_addGuest_9 (by decide) (fun c_1 => ?_) (fun c_1 => ?_)
  · rw [if_pos c_1] at hR
    refine lv_aload_n hx hb dX6_addGuest_22 rfl (lv_at hl 0 rfl) ?_
    refine va_get (D := (dC, dI)) (ci := 6) (v := .ref (aH 0)) (C := RX6) (T := TX6) (N := 7) hx hb hts hin6 hown hK hP 0 rfl rfl 4 (by decide) (hw_ hts 5 rfl) (fun _ h9 => h9) rfl dX6_addGuest_23 ?_
    refine lv_aload_n hx hb dX6_addGuest_26 rfl (lv_at hl 0 rfl) ?_
    refine va_get (D := (dC, dI)) (ci := 6) (v := .ref (aN 0)) (C := RX6) (T := TX6) (N := 7) hx hb hts hin6 hown hK hP 0 rfl rfl 0 (by decide) (hw_ hts 3 rfl) (fun _ h9 => h9) rfl dX6_addGuest_27 ?_
    have hF := va_free (wc := wHi cS aH ah G ++ (wZs cI ah Z ++ (wSt cI aN S))) hD hS hA [12, 13, 14, 15, 16, 17, 18, 19, 20, 21, 22, 23, 24, 25, 26, 27, 28, 29, 30, 31, 32, 33, 34, 35, 36, 37, 38, 39, 40, 41, 42, 43, 44, 45, 46, 47, 48, 49, 50, 51, 52, 53, 54, 55, 56, 57, 58, 59, 60, 61, 62, 63, 64, 65, 66, 67, 68, 69, 70, 71, 72, 73, 74, 75, 76, 77, 78, 79, 1, 2, 3, 4, 5, 6, 7, 8, 9, 10, 11] rfl
    refine va_callv (va_runV (As := [.ref (aN 0)]) (rest := []) ⟨hx, hb, hml, hown, hts⟩ (met_X0_save l dC dI cI cZ cS aH ah aN G Z S s.heap.size) (cwV 1 hts gX6_addGuest_X0_save rfl rfl rfl (by decide +kernel) ⟨Nat.le_of_ble_eq_true rfl, Nat.le_of_ble_eq_true rfl⟩) (pV (wc := wHi cS aH ah G ++ (wZs cI ah Z ++ (wSt cI aN S))) (ci := 0) (q0 := 12) hK hP hD hN [12, 13, 14, 15, 16, 17, 18, 19, 20, 21, 22, 23, 24, 25, 26, 27, 28, 29, 30, 31, 32, 33, 34, 35, 36, 37, 38, 39, 40, 41, 42, 43, 44, 45, 46, 47, 48, 49, 50, 51, 52, 53, 54, 55, 56, 57, 58, 59, 60, 61, 62, 63, 64, 65, 66, 67, 68, 69, 70, 71, 72, 73, 74, 75, 76, 77, 78, 79, 1, 2, 3, 4, 5, 6, 7, 8, 9, 10, 11] rfl (by decide) rfl rfl) rfl rfl hl.1 rfl (lv_room (Nat.le_of_ble_eq_true rfl)) dX6_addGuest_30 ⟨Nat.zero_le _, Nat.zero_le _⟩) hS (fun q _ h => hF q h) hF (fun  u t H1 locs ht hvm hw hB hz1 hk1 hS => ?_)
    obtain ⟨u2, u3⟩ := u
    try dsimp only at hw hB
    rw [ht] at hB
    have hR := bd2_n hw hR
    have hP := wrk2 (w2 := wFm aF aN aT aL aO aH aP aX ++ (wSt cI aN S ++ (wHi cS aH ah u2 ++ (wZs cI ah u3)))) (wr := wFm aF aN aT aL aO aH aP aX) hP hD [12, 13, 14, 15, 16, 17, 18, 19, 20, 21, 22, 23, 24, 25, 26, 27, 28, 29, 30, 31, 32, 33, 34, 35, 36, 37, 38, 39, 40, 41, 42, 43, 44, 45, 46, 47, 48, 49, 50, 51, 52, 53, 54, 55, 56, 57, 58, 59, 60, 61, 62, 63, 64, 65, 66, 67, 68, 69, 70, 71, 72, 73, 74, 75, 76, 77, 78, 79, 1, 2, 3, 4, 5, 6, 7, 8, 9, 10, 11] [0] rfl rfl (by decide) hk1 hB [0, 69, 70, 71, 72, 73, 74, 75, 76, 77, 78, 79, 1, 2, 3, 4, 5, 6, 7, 8, 9, 10, 11, 12, 13, 14, 15, 16, 17, 18, 19, 20, 21, 22, 23, 24, 25, 26, 27, 28, 29, 30, 31, 32, 33, 34, 35, 36, 37, 38, 39, 40, 41, 42, 43, 44, 45, 46, 47, 48, 49, 50, 51, 52, 53, 54, 55, 56, 57, 58, 59, 60, 61, 62, 63, 64, 65, 66, 67, 68] rfl
    have hD := D_addr (w1 := wFm aF aN aT aL aO aH aP aX ++ (wSt cI aN S ++ (wHi cS aH ah u2 ++ (wZs cI ah u3)))) hD rfl
    refine lv_aload_n hx hb dX6_addGuest_33 rfl (lv_at hl 0 rfl) ?_
    refine va_get (D := (dC, dI)) (ci := 6) (v := .ref (aN 0)) (C := RX6) (T := TX6) (N := 7) hx hb hts hin6 hown hK hP 0 rfl rfl 0 (by decide) (hw_ hts 3 rfl) (fun _ h9 => h9) rfl dX6_addGuest_34 ?_
    have hF := va_free (wc := wSt cI aN S) hD hS hA [1, 2, 3, 4, 5, 6, 7, 8, 9, 10, 11] rfl
    refine va_calli (va_runV (As := []) (rest := []) ⟨hx, hb, hml, hown, hts⟩ (met_X5_newGuest l dC dI cI cZ cS aN S H1.size) (cwV 0 hts gX6_addGuest_X5_newGuest rfl rfl rfl (by decide +kernel) ⟨Nat.le_of_ble_eq_true rfl, Nat.le_of_ble_eq_true rfl⟩) (pV (wc := wSt cI aN S) (ci := 5) (q0 := 1) hK hP hD hN [1, 2, 3, 4, 5, 6, 7, 8, 9, 10, 11] rfl (by decide) rfl rfl) rfl rfl hl.1 rfl (lv_room (Nat.le_of_ble_eq_true rfl)) dX6_addGuest_37 ⟨Nat.zero_le _, Nat.zero_le _⟩) hS (fun q _ h => hF q h) hF (fun r4 u5 t H2 locs ht hvm hw hB hz1 hk1 hS => ?_)
    try dsimp only at hw hB
    rw [ht] at hB
    have hR := bd2_n hw hR
    have hP := wrk2 (w2 := wFm aF aN aT aL aO aH aP aX ++ (wSt cI aN u5 ++ (wHi cS aH ah u2 ++ (wZs cI ah u3)))) (wr := wFm aF aN aT aL aO aH aP aX ++ (wHi cS aH ah u2 ++ (wZs cI ah u3))) hP hD [1, 2, 3, 4, 5, 6, 7, 8, 9, 10, 11] [0, 12, 13, 14, 15, 16, 17, 18, 19, 20, 21, 22, 23, 24, 25, 26, 27, 28, 29, 30, 31, 32, 33, 34, 35, 36, 37, 38, 39, 40, 41, 42, 43, 44, 45, 46, 47, 48, 49, 50, 51, 52, 53, 54, 55, 56, 57, 58, 59, 60, 61, 62, 63, 64, 65, 66, 67, 68, 69, 70, 71, 72, 73, 74, 75, 76, 77, 78, 79] rfl rfl (by decide) hk1 hB [0, 69, 70, 71, 72, 73, 74, 75, 76, 77, 78, 79, 1, 2, 3, 4, 5, 6, 7, 8, 9, 10, 11, 12, 13, 14, 15, 16, 17, 18, 19, 20, 21, 22, 23, 24, 25, 26, 27, 28, 29, 30, 31, 32, 33, 34, 35, 36, 37, 38, 39, 40, 41, 42, 43, 44, 45, 46, 47, 48, 49, 50, 51, 52, 53, 54, 55, 56, 57, 58, 59, 60, 61, 62, 63, 64, 65, 66, 67, 68] rfl
    have hD := D_addr (w1 := wFm aF aN aT aL aO aH aP aX ++ (wSt cI aN u5 ++ (wHi cS aH ah u2 ++ (wZs cI ah u3)))) hD rfl
    exact vx_ret (W.widen (k := 1) (n := 6) (Nat.zero_le _) (Nat.zero_le _) (W.iret (v := r4) hx hb hr (fun t ht hW => ⟨⟨r4, (u5, u2, u3), rfl, hR, P_at ht hP⟩, hS.F ht⟩) hS.2.2 dX6_addGuest_40))
  · rw [if_neg c_1] at hR
    obtain ⟨sa, hsa⟩ := hXW.1 125 (by decide)
    exact vx_throwS (text := strT 125) (sa := sa) (A := A) (names := ["java/lang/RuntimeException", "java/lang/Exception"]) (cls := "java/lang/IllegalStateException") hx hb hfl hown (by decide) (by decide) (hw_ hts 1 rfl) (hw_ hts 2 rfl) hsa (thr_at3 hXW (fun w h => hts w (List.mem_cons_of_mem _ (List.mem_append_right _ h)))) (by decide +kernel) hU hNs hS (hl.1.trans hml.symm) dX6_addGuest_12 dX6_addGuest_15 dX6_addGuest_16 dX6_addGuest_18 dX6_addGuest_21 (fun x hx => (htab x hx).elim) (Nat.lt_of_sub_pos (Nat.le_of_ble_eq_true rfl)) (Nat.le_of_ble_eq_true rfl) (Nat.le_of_ble_eq_true rfl) (Nat.le_of_ble_eq_true rfl) hlocks (fun t h1 h2 h3 => ⟨(S, G, Z), trivial, ⟨(3 : Int32), rfl, by decide, hR, thr_P hP h3⟩, thr_F hS h2 h3⟩) hS.2.2 (Nat.le_of_ble_eq_true rfl) (Nat.le_of_ble_eq_true rfl)
abbrev rm_X6_append : Room := { frames := 6, cells := 1, slots := 6, locals := 90 }
abbrev x_X6_append (dC : Nat → ClassId) (dI : Nat → Nat → Nat) (cI cZ cS : ClassId) (aF aN aT aL aO aH : Nat → Nat) (ah : Nat → Nat → Nat) (aP aX : Nat → Nat)  (res : Int32 × Int32 × Pic) (A : Nat → Prop) : String → State → State → Prop := vx_X (fun (_ : Pic) => True) (fun E u t => ∃ c : Int32, exN c = E ∧ ¬ c = 0 ∧ (c, (0 : Int32), u) = res ∧ va_P (dC, dI) vwCl (wFm aF aN aT aL aO aH aP aX ++ (wTx cI aX u)) t.heap) A
abbrev q_X6_append (dC : Nat → ClassId) (dI : Nat → Nat → Nat) (cI cZ cS : ClassId) (aF aN aT aL aO aH : Nat → Nat) (ah : Nat → Nat → Nat) (aP aX : Nat → Nat)  (res : Int32 × Int32 × Pic) (A : Nat → Prop) : Array Value → State → Outcome → State → Prop := va_Qi (fun (r : Int32) (u : Pic) => ((0 : Int32), r, u) = res) (fun u t => va_P (dC, dI) vwCl (wFm aF aN aT aL aO aH aP aX ++ (wTx cI aX u)) t.heap) A
set_option maxHeartbeats 4000000 in
set_option maxRecDepth 100000 in
theorem met_X6_append (l : Launch) (hfl : l.stackTraces = false) (dC : Nat → ClassId) (dI : Nat → Nat → Nat) (cI cZ cS : ClassId) (aF aN aT aL aO aH : Nat → Nat) (ah : Nat → Nat → Nat) (aP aX : Nat → Nat) (T : Pic) (base sz : Nat) (p1 : Int32) : vx_Met l yX6_append wsX6_append rm_X6_append (va_Pc [.ref (aF 0), .int p1] (pX (dC, dI) (tyS cI cZ cS) (wFm aF aN aT aL aO aH aP aX ++ (wTx cI aX T)) base sz)) (q_X6_append dC dI cI cZ cS aF aN aT aL aO aH ah aP aX (f6_append T p1) (va_A (wFm aF aN aT aL aO aH aP aX ++ (wTx cI aX T)) sz)) (x_X6_append dC dI cI cZ cS aF aN aT aL aO aH ah aP aX (f6_append T p1) (va_A (wFm aF aN aT aL aO aH aP aX ++ (wTx cI aX T)) sz)) 1 6 (va_A (wFm aF aN aT aL aO aH aP aX ++ (wTx cI aX T)) sz) := by
  refine vx_ofW (cc := cX6_append) (maxL := 2) (ret := (some .int)) (by decide) rfl ?_
  intro p e s m args below meth c s₁ B hml htab hv
  obtain ⟨rfl, hsz, hP, hK, hD0, hN, hbs, hXW⟩ := hv
  have hx := B.exec
  have hb := B.bytes
  have hr := B.returns
  have hts := atoms_spec (ws := wsX6_append) B.pre
  have hown : s.vm.findClass RX6 = some m.cls := findClass_of_methodNamed B.named
  have hlocks := B.notSynchronized
  subst hsz
  have hD := hD0.self (sz := s.heap.size)
  generalize hAe : va_A (wFm aF aN aT aL aO aH aP aX ++ (wTx cI aX T)) s.heap.size = A at hD ⊢
  have hA : ∀ q : Nat, s.heap.size ≤ q → A q := fun q h => by rw [← hAe]; exact Or.inr h
  have hS : va_S A s.heap s.heap [] := va_S.rf
  have hAb : ∀ q, A q → base ≤ q := fun q h => by rw [← hAe] at h; exact base_of hD0 hbs q h
  have hU := hXW.2.1.narrow hAb
  have hNs := hXW.2.2.1.narrow hAb
  have hP : va_P (dC, dI) vwCl (wFm aF aN aT aL aO aH aP aX ++ (wTx cI aX T)) s.heap := hP
  generalize hR : f6_append T p1 = res
  rw [f6_append] at hR
  have hin6 : ∀ w ∈ wsX60, w ∈ wsX6_append := by decide +kernel
  have hin3 : ∀ w ∈ wsX30, w ∈ wsX6_append := by decide +kernel
  have hl := lv_entry ([.ref (aF 0), .int p1]) (n := 2) (Nat.le_of_ble_eq_true rfl)
  rw [lg_entry_eq]
  generalize (lg_sl ([.ref (aF 0), .int p1]) ++ List.replicate (2 - (lg_sl ([.ref (aF 0), .int p1])).length) Slot.unset).toArray = ls at hl ⊢
  have hl : lv_has ls 2 [(0, .ref (aF 0)), (1, .int p1)] := hl
  refine lv_iload_n hx hb dX6_append_0 rfl (lv_at hl 1 rfl) ?_
  refine lv_bipush (v := (33 : Int32)) hx hb dX6_append_1 (by decide) ?_
  refine lv_bipush (v := (126 : Int32)) hx hb dX6_append_3 (by decide) ?_
  refine va_calli (va_runS (As := [.int p1, .int (33 : Int32), .int (126 : Int32)]) (rest := []) ⟨hx, hb, hml, hown, hts⟩ (met_X6_isWithin l dC dI cI cZ cS s.heap.size p1 (33 : Int32) (126 : Int32)) (va_cwS 3 hts gX6_append_X6_isWithin rfl rfl rfl (by decide +kernel) ⟨Nat.le_of_ble_eq_true rfl, Nat.le_of_ble_eq_true rfl⟩) (pS (wc := []) hK hP hD hN [] rfl (by decide)) rfl rfl hl.1 rfl (lv_room (Nat.le_of_ble_eq_true rfl)) dX6_append_5 ⟨Nat.zero_le _, Nat.zero_le _⟩) hS (fun q _ h => a0_in hS hA q h) (a0_in hS hA) (fun r1 u t H1 locs ht hvm hw hB hz1 hk1 hS => ?_)
  obtain ⟨hw, nb2⟩ := hw
  subst hw
  have hP := rdk hP hk1
  refine lv_if_ne (tgt := 21) hx hb dX6_append_8 (by decide) (fun c_3 => ?_) (fun c_3 => ?_)
  · rw [if_neg c_3] at hR
    refine lv_aload_n hx hb dX6_append_21 rfl (lv_at hl 0 rfl) ?_
    refine va_get (D := (dC, dI)) (ci := 6) (v := .ref (aX 0)) (C := RX6) (T := TX6) (N := 7) hx hb hts hin6 hown hK hP 0 rfl rfl 6 (by decide) (hw_ hts 5 rfl) (fun _ h9 => h9) rfl dX6_append_22 ?_
    refine va_get (D := (dC, dI)) (ci := 3) (v := .int ((T 1) 0)) (C := RX3) (T := TX3) (N := 2) hx hb hts hin3 hown hK hP 1 rfl rfl 1 (by decide) (hw_ hts 6 rfl) (fun _ h9 => h9) rfl dX6_append_25 ?_
    refine lv_bipush (v := (60 : Int32)) hx hb dX6_append_28 (by decide) ?_
    refine lv_icmp_lt (tgt := 43) hx hb dX6_append_30 (by decide) (fun c_4 => ?_) (fun c_4 => ?_)
    · rw [if_pos c_4] at hR
      refine lv_aload_n hx hb dX6_append_43 rfl (lv_at hl 0 rfl) ?_
      refine va_get (D := (dC, dI)) (ci := 6) (v := .ref (aX 0)) (C := RX6) (T := TX6) (N := 7) hx hb hts hin6 hown hK hP 0 rfl rfl 6 (by decide) (hw_ hts 5 rfl) (fun _ h9 => h9) rfl dX6_append_44 ?_
      refine lv_iload_n hx hb dX6_append_47 rfl (lv_at hl 1 rfl) ?_
      have hF := va_free (wc := wTx cI aX T) hD hS hA [1, 2] rfl
      refine va_callv (va_runV (As := [.int p1]) (rest := []) ⟨hx, hb, hml, hown, hts⟩ (met_X3_addCode l dC dI cI cZ cS aX T H1.size p1) (cwV 1 hts gX6_append_X3_addCode rfl rfl rfl (by decide +kernel) ⟨Nat.le_of_ble_eq_true rfl, Nat.le_of_ble_eq_true rfl⟩) (pV (wc := wTx cI aX T) (ci := 3) (q0 := 1) hK hP hD hN [1, 2] rfl (by decide) rfl rfl) rfl rfl hl.1 rfl (lv_room (Nat.le_of_ble_eq_true rfl)) dX6_append_48 ⟨Nat.zero_le _, Nat.zero_le _⟩) hS (fun q _ h => hF q h) hF (fun  u5 t H2 locs ht hvm hw hB hz1 hk1 hS => ?_)
      try dsimp only at hw hB
      rw [ht] at hB
      have hR := bd_n hw hR
      have hP := wrk2 (w2 := wFm aF aN aT aL aO aH aP aX ++ (wTx cI aX u5)) (wr := wFm aF aN aT aL aO aH aP aX) hP hD [1, 2] [0] rfl rfl (by decide) hk1 hB [0, 1, 2] rfl
      have hD := D_addr (w1 := wFm aF aN aT aL aO aH aP aX ++ (wTx cI aX u5)) hD rfl
      refine lv_aload_n hx hb dX6_append_51 rfl (lv_at hl 0 rfl) ?_
      refine va_get (D := (dC, dI)) (ci := 6) (v := .ref (aX 0)) (C := RX6) (T := TX6) (N := 7) hx hb hts hin6 hown hK hP 0 rfl rfl 6 (by decide) (hw_ hts 5 rfl) (fun _ h9 => h9) rfl dX6_append_52 ?_
      refine va_get (D := (dC, dI)) (ci := 3) (v := .int ((u5 1) 0)) (C := RX3) (T := TX3) (N := 2) hx hb hts hin3 hown hK hP 1 rfl rfl 1 (by decide) (hw_ hts 6 rfl) (fun _ h9 => h9) rfl dX6_append_55 ?_
      exact vx_ret (W.widen (k := 1) (n := 6) (Nat.zero_le _) (Nat.zero_le _) (W.iret (v := ((u5 1) 0)) hx hb hr (fun t ht hW => ⟨⟨((u5 1) 0), u5, rfl, hR, P_at ht hP⟩, hS.F ht⟩) hS.2.2 dX6_append_58))
    · rw [if_neg c_4] at hR
      obtain ⟨sa, hsa⟩ := hXW.1 233 (by decide)
      exact vx_throwS (text := strT 233) (sa := sa) (A := A) (names := ["java/lang/RuntimeException", "java/lang/Exception"]) (cls := "java/lang/IllegalStateException") hx hb hfl hown (by decide) (by decide) (hw_ hts 3 rfl) (hw_ hts 4 rfl) hsa (thr_at3 hXW (fun w h => hts w (List.mem_cons_of_mem _ (List.mem_append_right _ h)))) (by decide +kernel) hU hNs hS (hl.1.trans hml.symm) dX6_append_33 dX6_append_36 dX6_append_37 dX6_append_39 dX6_append_42 (fun x hx => (htab x hx).elim) (Nat.lt_of_sub_pos (Nat.le_of_ble_eq_true rfl)) (Nat.le_of_ble_eq_true rfl) (Nat.le_of_ble_eq_true rfl) (Nat.le_of_ble_eq_true rfl) hlocks (fun t h1 h2 h3 => ⟨T, trivial, ⟨(3 : Int32), rfl, by decide, hR, thr_P hP h3⟩, thr_F hS h2 h3⟩) hS.2.2 (Nat.le_of_ble_eq_true rfl) (Nat.le_of_ble_eq_true rfl)
  · rw [if_pos c_3] at hR
    obtain ⟨sa, hsa⟩ := hXW.1 228 (by decide)
    exact vx_throwS (text := strT 228) (sa := sa) (A := A) (names := ["java/lang/RuntimeException", "java/lang/Exception"]) (cls := "java/lang/IllegalArgumentException") hx hb hfl hown (by decide) (by decide) (hw_ hts 1 rfl) (hw_ hts 2 rfl) hsa (thr_at2 hXW (fun w h => hts w (List.mem_cons_of_mem _ (List.mem_append_left _ (List.mem_append_right _ h))))) (by decide +kernel) hU hNs hS (hl.1.trans hml.symm) dX6_append_11 dX6_append_14 dX6_append_15 dX6_append_17 dX6_append_20 (fun x hx => (htab x hx).elim) (Nat.lt_of_sub_pos (Nat.le_of_ble_eq_true rfl)) (Nat.le_of_ble_eq_true rfl) (Nat.le_of_ble_eq_true rfl) (Nat.le_of_ble_eq_true rfl) hlocks (fun t h1 h2 h3 => ⟨T, trivial, ⟨(2 : Int32), rfl, by decide, hR, thr_P hP h3⟩, thr_F hS h2 h3⟩) hS.2.2 (Nat.le_of_ble_eq_true rfl) (Nat.le_of_ble_eq_true rfl)
abbrev rm_X6_undo : Room := { frames := 6, cells := 1, slots := 6, locals := 90 }
abbrev x_X6_undo (dC : Nat → ClassId) (dI : Nat → Nat → Nat) (cI cZ cS : ClassId) (aF aN aT aL aO aH : Nat → Nat) (ah : Nat → Nat → Nat) (aP aX : Nat → Nat) (Z : (Nat → Pic)) (res : Int32 × Int32 × Pic × Pic) (A : Nat → Prop) : String → State → State → Prop := vx_X (fun (_ : Pic × Pic) => True) (fun E u t => ∃ c : Int32, exN c = E ∧ ¬ c = 0 ∧ (c, (0 : Int32), u) = res ∧ va_P (dC, dI) vwCl (wFm aF aN aT aL aO aH aP aX ++ (wSt cI aN u.1 ++ (wHi cS aH ah u.2 ++ (wZs cI ah Z)))) t.heap) A
abbrev q_X6_undo (dC : Nat → ClassId) (dI : Nat → Nat → Nat) (cI cZ cS : ClassId) (aF aN aT aL aO aH : Nat → Nat) (ah : Nat → Nat → Nat) (aP aX : Nat → Nat) (Z : (Nat → Pic)) (res : Int32 × Int32 × Pic × Pic) (A : Nat → Prop) : Array Value → State → Outcome → State → Prop := va_Qi (fun (r : Int32) (u : Pic × Pic) => ((0 : Int32), r, u) = res) (fun u t => va_P (dC, dI) vwCl (wFm aF aN aT aL aO aH aP aX ++ (wSt cI aN u.1 ++ (wHi cS aH ah u.2 ++ (wZs cI ah Z)))) t.heap) A
set_option maxHeartbeats 4000000 in
set_option maxRecDepth 100000 in
theorem met_X6_undo (l : Launch) (hfl : l.stackTraces = false) (dC : Nat → ClassId) (dI : Nat → Nat → Nat) (cI cZ cS : ClassId) (aF aN aT aL aO aH : Nat → Nat) (ah : Nat → Nat → Nat) (aP aX : Nat → Nat) (S : Pic) (G : Pic) (Z : (Nat → Pic)) (base sz : Nat)  : vx_Met l yX6_undo wsX6_undo rm_X6_undo (va_Pc [.ref (aF 0)] (pX (dC, dI) (tyS cI cZ cS) (wFm aF aN aT aL aO aH aP aX ++ (wSt cI aN S ++ (wHi cS aH ah G ++ (wZs cI ah Z)))) base sz)) (q_X6_undo dC dI cI cZ cS aF aN aT aL aO aH ah aP aX Z (f6_undo S G Z) (va_A (wFm aF aN aT aL aO aH aP aX ++ (wSt cI aN S ++ (wHi cS aH ah G ++ (wZs cI ah Z)))) sz)) (x_X6_undo dC dI cI cZ cS aF aN aT aL aO aH ah aP aX Z (f6_undo S G Z) (va_A (wFm aF aN aT aL aO aH aP aX ++ (wSt cI aN S ++ (wHi cS aH ah G ++ (wZs cI ah Z)))) sz)) 1 6 (va_A (wFm aF aN aT aL aO aH aP aX ++ (wSt cI aN S ++ (wHi cS aH ah G ++ (wZs cI ah Z)))) sz) := by
  refine vx_ofW (cc := cX6_undo) (maxL := 1) (ret := (some .int)) (by decide) rfl ?_
  intro p e s m args below meth c s₁ B hml htab hv
  obtain ⟨rfl, hsz, hP, hK, hD0, hN, hbs, hXW⟩ := hv
  have hx := B.exec
  have hb := B.bytes
  have hr := B.returns
  have hts := atoms_spec (ws := wsX6_undo) B.pre
  have hown : s.vm.findClass RX6 = some m.cls := findClass_of_methodNamed B.named
  have hlocks := B.notSynchronized
  subst hsz
  have hD := hD0.self (sz := s.heap.size)
  generalize hAe : va_A (wFm aF aN aT aL aO aH aP aX ++ (wSt cI aN S ++ (wHi cS aH ah G ++ (wZs cI ah Z)))) s.heap.size = A at hD ⊢
  have hA : ∀ q : Nat, s.heap.size ≤ q → A q := fun q h => by rw [← hAe]; exact Or.inr h
  have hS : va_S A s.heap s.heap [] := va_S.rf
  have hAb : ∀ q, A q → base ≤ q := fun q h => by rw [← hAe] at h; exact base_of hD0 hbs q h
  have hU := hXW.2.1.narrow hAb
  have hNs := hXW.2.2.1.narrow hAb
  have hP : va_P (dC, dI) vwCl (wFm aF aN aT aL aO aH aP aX ++ (wSt cI aN S ++ (wHi cS aH ah G ++ (wZs cI ah Z)))) s.heap := hP
  generalize hR : f6_undo S G Z = res
  rw [f6_undo] at hR
  have hin6 : ∀ w ∈ wsX60, w ∈ wsX6_undo := by decide +kernel
  have hin0 : ∀ w ∈ wsX00, w ∈ wsX6_undo := by decide +kernel
  have hl := lv_entry ([.ref (aF 0)]) (n := 1) (Nat.le_of_ble_eq_true rfl)
  rw [lg_entry_eq]
  generalize (lg_sl ([.ref (aF 0)]) ++ List.replicate (1 - (lg_sl ([.ref (aF 0)])).length) Slot.unset).toArray = ls at hl ⊢
  have hl : lv_has ls 1 [(0, .ref (aF 0))] := hl
  refine lv_aload_n hx hb dX6_undo_0 rfl (lv_at hl 0 rfl) ?_
  refine va_get (D := (dC, dI)) (ci := 6) (v := .ref (aH 0)) (C := RX6) (T := TX6) (N := 7) hx hb hts hin6 hown hK hP 0 rfl rfl 4 (by decide) (hw_ hts 3 rfl) (fun _ h9 => h9) rfl dX6_undo_1 ?_
  refine va_get (D := (dC, dI)) (ci := 0) (v := .int ((G 2) 0)) (C := RX0) (T := TX0) (N := 3) hx hb hts hin0 hown hK hP 12 rfl rfl 2 (by decide) (hw_ hts 4 rfl) (fun _ h9 => h9) rfl dX6_undo_4 ?_
  refine lv_if_ne (tgt := 21) hx hb dX6_undo_7 (by decide) (fun c_1 => ?_) (fun c_1 => ?_)
  · rw [if_neg c_1] at hR
    refine lv_aload_n hx hb dX6_undo_21 rfl (lv_at hl 0 rfl) ?_
    refine va_get (D := (dC, dI)) (ci := 6) (v := .ref (aH 0)) (C := RX6) (T := TX6) (N := 7) hx hb hts hin6 hown hK hP 0 rfl rfl 4 (by decide) (hw_ hts 3 rfl) (fun _ h9 => h9) rfl dX6_undo_22 ?_
    refine lv_aload_n hx hb dX6_undo_25 rfl (lv_at hl 0 rfl) ?_
    refine va_get (D := (dC, dI)) (ci := 6) (v := .ref (aN 0)) (C := RX6) (T := TX6) (N := 7) hx hb hts hin6 hown hK hP 0 rfl rfl 0 (by decide) (hw_ hts 5 rfl) (fun _ h9 => h9) rfl dX6_undo_26 ?_
    have hF := va_free (wc := wHi cS aH ah G ++ (wZs cI ah Z ++ (wSt cI aN S))) hD hS hA [12, 13, 14, 15, 16, 17, 18, 19, 20, 21, 22, 23, 24, 25, 26, 27, 28, 29, 30, 31, 32, 33, 34, 35, 36, 37, 38, 39, 40, 41, 42, 43, 44, 45, 46, 47, 48, 49, 50, 51, 52, 53, 54, 55, 56, 57, 58, 59, 60, 61, 62, 63, 64, 65, 66, 67, 68, 69, 70, 71, 72, 73, 74, 75, 76, 77, 78, 79, 1, 2, 3, 4, 5, 6, 7, 8, 9, 10, 11] rfl
    refine va_callv (va_runV (As := [.ref (aN 0)]) (rest := []) ⟨hx, hb, hml, hown, hts⟩ (met_X0_bringBack l dC dI cI cZ cS aH ah aN G Z S s.heap.size) (cwV 1 hts gX6_undo_X0_bringBack rfl rfl rfl (by decide +kernel) ⟨Nat.le_of_ble_eq_true rfl, Nat.le_of_ble_eq_true rfl⟩) (pV (wc := wHi cS aH ah G ++ (wZs cI ah Z ++ (wSt cI aN S))) (ci := 0) (q0 := 12) hK hP hD hN [12, 13, 14, 15, 16, 17, 18, 19, 20, 21, 22, 23, 24, 25, 26, 27, 28, 29, 30, 31, 32, 33, 34, 35, 36, 37, 38, 39, 40, 41, 42, 43, 44, 45, 46, 47, 48, 49, 50, 51, 52, 53, 54, 55, 56, 57, 58, 59, 60, 61, 62, 63, 64, 65, 66, 67, 68, 69, 70, 71, 72, 73, 74, 75, 76, 77, 78, 79, 1, 2, 3, 4, 5, 6, 7, 8, 9, 10, 11] rfl (by decide) rfl rfl) rfl rfl hl.1 rfl (lv_room (Nat.le_of_ble_eq_true rfl)) dX6_undo_29 ⟨Nat.zero_le _, Nat.zero_le _⟩) hS (fun q _ h => hF q h) hF (fun  u t H1 locs ht hvm hw hB hz1 hk1 hS => ?_)
    obtain ⟨u2, u3⟩ := u
    try dsimp only at hw hB
    rw [ht] at hB
    have hR := bd2_n hw hR
    have hP := wrk2 (w2 := wFm aF aN aT aL aO aH aP aX ++ (wSt cI aN u3 ++ (wHi cS aH ah u2 ++ (wZs cI ah Z)))) (wr := wFm aF aN aT aL aO aH aP aX) hP hD [12, 13, 14, 15, 16, 17, 18, 19, 20, 21, 22, 23, 24, 25, 26, 27, 28, 29, 30, 31, 32, 33, 34, 35, 36, 37, 38, 39, 40, 41, 42, 43, 44, 45, 46, 47, 48, 49, 50, 51, 52, 53, 54, 55, 56, 57, 58, 59, 60, 61, 62, 63, 64, 65, 66, 67, 68, 69, 70, 71, 72, 73, 74, 75, 76, 77, 78, 79, 1, 2, 3, 4, 5, 6, 7, 8, 9, 10, 11] [0] rfl rfl (by decide) hk1 hB [0, 69, 70, 71, 72, 73, 74, 75, 76, 77, 78, 79, 1, 2, 3, 4, 5, 6, 7, 8, 9, 10, 11, 12, 13, 14, 15, 16, 17, 18, 19, 20, 21, 22, 23, 24, 25, 26, 27, 28, 29, 30, 31, 32, 33, 34, 35, 36, 37, 38, 39, 40, 41, 42, 43, 44, 45, 46, 47, 48, 49, 50, 51, 52, 53, 54, 55, 56, 57, 58, 59, 60, 61, 62, 63, 64, 65, 66, 67, 68] rfl
    have hD := D_addr (w1 := wFm aF aN aT aL aO aH aP aX ++ (wSt cI aN u3 ++ (wHi cS aH ah u2 ++ (wZs cI ah Z)))) hD rfl
    refine lv_aload_n hx hb dX6_undo_32 rfl (lv_at hl 0 rfl) ?_
    refine va_get (D := (dC, dI)) (ci := 6) (v := .ref (aH 0)) (C := RX6) (T := TX6) (N := 7) hx hb hts hin6 hown hK hP 0 rfl rfl 4 (by decide) (hw_ hts 3 rfl) (fun _ h9 => h9) rfl dX6_undo_33 ?_
    refine va_get (D := (dC, dI)) (ci := 0) (v := .int ((u2 2) 0)) (C := RX0) (T := TX0) (N := 3) hx hb hts hin0 hown hK hP 12 rfl rfl 2 (by decide) (hw_ hts 4 rfl) (fun _ h9 => h9) rfl dX6_undo_36 ?_
    exact vx_ret (W.widen (k := 1) (n := 6) (Nat.zero_le _) (Nat.zero_le _) (W.iret (v := ((u2 2) 0)) hx hb hr (fun t ht hW => ⟨⟨((u2 2) 0), (u3, u2), rfl, hR, P_at ht hP⟩, hS.F ht⟩) hS.2.2 dX6_undo_39))
  · rw [if_pos c_1] at hR
    obtain ⟨sa, hsa⟩ := hXW.1 286 (by decide)
    exact vx_throwSW (text := strT 286) (sa := sa) (A := A) (names := ["java/lang/RuntimeException", "java/lang/Exception"]) (cls := "java/lang/IllegalStateException") hx hb hfl hown (by decide) (by decide) (hw_ hts 1 rfl) (hw_ hts 2 rfl) hsa (thr_at3 hXW (fun w h => hts w (List.mem_cons_of_mem _ (List.mem_append_right _ h)))) (by decide +kernel) hU hNs hS (hl.1.trans hml.symm) dX6_undo_10 dX6_undo_13 dX6_undo_14 dX6_undo_17 dX6_undo_20 (fun x hx => (htab x hx).elim) (Nat.lt_of_sub_pos (Nat.le_of_ble_eq_true rfl)) (Nat.le_of_ble_eq_true rfl) (Nat.le_of_ble_eq_true rfl) (Nat.le_of_ble_eq_true rfl) hlocks (fun t h1 h2 h3 => ⟨(S, G), trivial, ⟨(3 : Int32), rfl, by decide, hR, thr_P hP h3⟩, thr_F hS h2 h3⟩) hS.2.2 (Nat.le_of_ble_eq_true rfl) (Nat.le_of_ble_eq_true rfl)
abbrev rm_X6_take : Room := { frames := 6, cells := 1, slots := 6, locals := 90 }
abbrev x_X6_take (dC : Nat → ClassId) (dI : Nat → Nat → Nat) (cI cZ cS : ClassId) (aF aN aT aL aO aH : Nat → Nat) (ah : Nat → Nat → Nat) (aP aX : Nat → Nat) (S : Pic) (res : Int32 × Int32 × Pic) (A : Nat → Prop) : String → State → State → Prop := vx_X (fun (_ : Pic) => True) (fun E u t => ∃ c : Int32, exN c = E ∧ ¬ c = 0 ∧ (c, (0 : Int32), u) = res ∧ va_P (dC, dI) vwCl (wFm aF aN aT aL aO aH aP aX ++ (wSt cI aN S ++ (wSn cI cZ aP u))) t.heap) A
abbrev q_X6_take (dC : Nat → ClassId) (dI : Nat → Nat → Nat) (cI cZ cS : ClassId) (aF aN aT aL aO aH : Nat → Nat) (ah : Nat → Nat → Nat) (aP aX : Nat → Nat) (S : Pic) (res : Int32 × Int32 × Pic) (A : Nat → Prop) : Array Value → State → Outcome → State → Prop := va_Qi (fun (r : Int32) (u : Pic) => ((0 : Int32), r, u) = res) (fun u t => va_P (dC, dI) vwCl (wFm aF aN aT aL aO aH aP aX ++ (wSt cI aN S ++ (wSn cI cZ aP u))) t.heap) A
set_option maxHeartbeats 4000000 in
set_option maxRecDepth 100000 in
theorem met_X6_take (l : Launch) (hfl : l.stackTraces = false) (dC : Nat → ClassId) (dI : Nat → Nat → Nat) (cI cZ cS : ClassId) (aF aN aT aL aO aH : Nat → Nat) (ah : Nat → Nat → Nat) (aP aX : Nat → Nat) (S : Pic) (N : Pic) (base sz : Nat) (p1 : Int32) : vx_Met l yX6_take wsX6_take rm_X6_take (va_Pc [.ref (aF 0), .int p1] (pX (dC, dI) (tyS cI cZ cS) (wFm aF aN aT aL aO aH aP aX ++ (wSt cI aN S ++ (wSn cI cZ aP N))) base sz)) (q_X6_take dC dI cI cZ cS aF aN aT aL aO aH ah aP aX S (f6_take S N p1) (va_A (wFm aF aN aT aL aO aH aP aX ++ (wSt cI aN S ++ (wSn cI cZ aP N))) sz)) (x_X6_take dC dI cI cZ cS aF aN aT aL aO aH ah aP aX S (f6_take S N p1) (va_A (wFm aF aN aT aL aO aH aP aX ++ (wSt cI aN S ++ (wSn cI cZ aP N))) sz)) 1 6 (va_A (wFm aF aN aT aL aO aH aP aX ++ (wSt cI aN S ++ (wSn cI cZ aP N))) sz) := by
  refine vx_ofW (cc := cX6_take) (maxL := 2) (ret := (some .int)) (by decide) rfl ?_
  intro p e s m args below meth c s₁ B hml htab hv
  obtain ⟨rfl, hsz, hP, hK, hD0, hN, hbs, hXW⟩ := hv
  have hx := B.exec
  have hb := B.bytes
  have hr := B.returns
  have hts := atoms_spec (ws := wsX6_take) B.pre
  have hown : s.vm.findClass RX6 = some m.cls := findClass_of_methodNamed B.named
  have hlocks := B.notSynchronized
  subst hsz
  have hD := hD0.self (sz := s.heap.size)
  generalize hAe : va_A (wFm aF aN aT aL aO aH aP aX ++ (wSt cI aN S ++ (wSn cI cZ aP N))) s.heap.size = A at hD ⊢
  have hA : ∀ q : Nat, s.heap.size ≤ q → A q := fun q h => by rw [← hAe]; exact Or.inr h
  have hS : va_S A s.heap s.heap [] := va_S.rf
  have hAb : ∀ q, A q → base ≤ q := fun q h => by rw [← hAe] at h; exact base_of hD0 hbs q h
  have hU := hXW.2.1.narrow hAb
  have hNs := hXW.2.2.1.narrow hAb
  have hP : va_P (dC, dI) vwCl (wFm aF aN aT aL aO aH aP aX ++ (wSt cI aN S ++ (wSn cI cZ aP N))) s.heap := hP
  generalize hR : f6_take S N p1 = res
  rw [f6_take] at hR
  have hin6 : ∀ w ∈ wsX60, w ∈ wsX6_take := by decide +kernel
  have hin5 : ∀ w ∈ wsX50, w ∈ wsX6_take := by decide +kernel
  have hl := lv_entry ([.ref (aF 0), .int p1]) (n := 2) (Nat.le_of_ble_eq_true rfl)
  rw [lg_entry_eq]
  generalize (lg_sl ([.ref (aF 0), .int p1]) ++ List.replicate (2 - (lg_sl ([.ref (aF 0), .int p1])).length) Slot.unset).toArray = ls at hl ⊢
  have hl : lv_has ls 2 [(0, .ref (aF 0)), (1, .int p1)] := hl
  refine lv_iload_n hx hb dX6_take_0 rfl (lv_at hl 1 rfl) ?_
  refine lv_iconst (v := (0 : Int32)) hx hb dX6_take_1 (by decide) ?_
  refine lv_iconst (v := (1 : Int32)) hx hb dX6_take_2 (by decide) ?_
  refine va_calli (va_runS (As := [.int p1, .int (0 : Int32), .int (1 : Int32)]) (rest := []) ⟨hx, hb, hml, hown, hts⟩ (met_X6_isWithin l dC dI cI cZ cS s.heap.size p1 (0 : Int32) (1 : Int32)) (va_cwS 3 hts gX6_take_X6_isWithin rfl rfl rfl (by decide +kernel) ⟨Nat.le_of_ble_eq_true rfl, Nat.le_of_ble_eq_true rfl⟩) (pS (wc := []) hK hP hD hN [] rfl (by decide)) rfl rfl hl.1 rfl (lv_room (Nat.le_of_ble_eq_true rfl)) dX6_take_3 ⟨Nat.zero_le _, Nat.zero_le _⟩) hS (fun q _ h => a0_in hS hA q h) (a0_in hS hA) (fun r1 u t H1 locs ht hvm hw hB hz1 hk1 hS => ?_)
  obtain ⟨hw, nb2⟩ := hw
  subst hw
  have hP := rdk hP hk1
  refine lv_if_ne (tgt := 20) hx hb dX6_take_6 (by decide) (fun c_3 => ?_) (fun c_3 => ?_)
  · rw [if_neg c_3] at hR
    refine lv_aload_n hx hb dX6_take_20 rfl (lv_at hl 0 rfl) ?_
    refine va_get (D := (dC, dI)) (ci := 6) (v := .ref (aP 0)) (C := RX6) (T := TX6) (N := 7) hx hb hts hin6 hown hK hP 0 rfl rfl 5 (by decide) (hw_ hts 3 rfl) (fun _ h9 => h9) rfl dX6_take_21 ?_
    refine lv_iload_n hx hb dX6_take_24 rfl (lv_at hl 1 rfl) ?_
    refine lv_aload_n hx hb dX6_take_25 rfl (lv_at hl 0 rfl) ?_
    refine va_get (D := (dC, dI)) (ci := 6) (v := .ref (aN 0)) (C := RX6) (T := TX6) (N := 7) hx hb hts hin6 hown hK hP 0 rfl rfl 0 (by decide) (hw_ hts 4 rfl) (fun _ h9 => h9) rfl dX6_take_26 ?_
    refine va_get (D := (dC, dI)) (ci := 5) (v := .ref (aN 11)) (C := RX5) (T := TX5) (N := 12) hx hb hts hin5 hown hK hP 1 rfl rfl 11 (by decide) (hw_ hts 5 rfl) (fun _ h9 => h9) rfl dX6_take_29 ?_
    have hF := va_free (wc := wSn cI cZ aP N ++ ([((aN 11), .inl (cI, 84, .inl (S 11)))])) hD hS hA [12, 13, 14, 11] rfl
    refine va_callv (va_runV (As := [.int p1, .ref (aN 11)]) (rest := []) ⟨hx, hb, hml, hown, hts⟩ (met_X4_keep l dC dI cI cZ cS aP (aN 11) 84 (by decide) N (S 11) H1.size p1) (cwV 2 hts gX6_take_X4_keep rfl rfl rfl (by decide +kernel) ⟨Nat.le_of_ble_eq_true rfl, Nat.le_of_ble_eq_true rfl⟩) (pV (wc := wSn cI cZ aP N ++ ([((aN 11), .inl (cI, 84, .inl (S 11)))])) (ci := 4) (q0 := 12) hK hP hD hN [12, 13, 14, 11] rfl (by decide) rfl rfl) rfl rfl hl.1 rfl (lv_room (Nat.le_of_ble_eq_true rfl)) dX6_take_32 ⟨Nat.zero_le _, Nat.zero_le _⟩) hS (fun q _ h => hF q h) hF (fun  u4 t H2 locs ht hvm hw hB hz1 hk1 hS => ?_)
    try dsimp only at hw hB
    rw [ht] at hB
    have hR := bd_n hw hR
    have hP := wrk (w2 := wFm aF aN aT aL aO aH aP aX ++ (wSt cI aN S ++ (wSn cI cZ aP u4))) hP hD [12, 13, 14, 11] rfl (by decide) hk1 hB rfl rfl
    have hD := D_addr (w1 := wFm aF aN aT aL aO aH aP aX ++ (wSt cI aN S ++ (wSn cI cZ aP u4))) hD rfl
    refine lv_aload_n hx hb dX6_take_35 rfl (lv_at hl 0 rfl) ?_
    refine va_get (D := (dC, dI)) (ci := 6) (v := .ref (aN 0)) (C := RX6) (T := TX6) (N := 7) hx hb hts hin6 hown hK hP 0 rfl rfl 0 (by decide) (hw_ hts 4 rfl) (fun _ h9 => h9) rfl dX6_take_36 ?_
    refine va_calli (va_runV (As := []) (rest := []) ⟨hx, hb, hml, hown, hts⟩ (met_X5_planCount l dC dI cI cZ cS aN S H2.size) (cwV 0 hts gX6_take_X5_planCount rfl rfl rfl (by decide +kernel) ⟨Nat.le_of_ble_eq_true rfl, Nat.le_of_ble_eq_true rfl⟩) (pV (wc := wSt cI aN S) (ci := 5) (q0 := 1) hK hP hD hN [1, 2, 3, 4, 5, 6, 7, 8, 9, 10, 11] rfl (by decide) rfl rfl) rfl rfl hl.1 rfl (lv_room (Nat.le_of_ble_eq_true rfl)) dX6_take_39 ⟨Nat.zero_le _, Nat.zero_le _⟩) hS (fun q _ h => a0_in hS hA q h) (a0_in hS hA) (fun r5 u t H3 locs ht hvm hw hB hz1 hk1 hS => ?_)
    have hR := bd_n hw hR
    have hP := rdk hP hk1
    exact vx_ret (W.widen (k := 1) (n := 6) (Nat.zero_le _) (Nat.zero_le _) (W.iret (v := r5) hx hb hr (fun t ht hW => ⟨⟨r5, u4, rfl, hR, P_at ht hP⟩, hS.F ht⟩) hS.2.2 dX6_take_42))
  · rw [if_pos c_3] at hR
    obtain ⟨sa, hsa⟩ := hXW.1 266 (by decide)
    exact vx_throwSW (text := strT 266) (sa := sa) (A := A) (names := ["java/lang/RuntimeException", "java/lang/Exception"]) (cls := "java/lang/IndexOutOfBoundsException") hx hb hfl hown (by decide) (by decide) (hw_ hts 1 rfl) (hw_ hts 2 rfl) hsa (thr_at1 hXW (fun w h => hts w (List.mem_cons_of_mem _ (List.mem_append_right _ h)))) (by decide +kernel) hU hNs hS (hl.1.trans hml.symm) dX6_take_9 dX6_take_12 dX6_take_13 dX6_take_16 dX6_take_19 (fun x hx => (htab x hx).elim) (Nat.lt_of_sub_pos (Nat.le_of_ble_eq_true rfl)) (Nat.le_of_ble_eq_true rfl) (Nat.le_of_ble_eq_true rfl) (Nat.le_of_ble_eq_true rfl) hlocks (fun t h1 h2 h3 => ⟨N, trivial, ⟨(1 : Int32), rfl, by decide, hR, thr_P hP h3⟩, thr_F hS h2 h3⟩) hS.2.2 (Nat.le_of_ble_eq_true rfl) (Nat.le_of_ble_eq_true rfl)
abbrev rm_X6_day : Room := { frames := 6, cells := 1, slots := 6, locals := 117 }
abbrev x_X6_day (dC : Nat → ClassId) (dI : Nat → Nat → Nat) (cI cZ cS : ClassId) (aF aN aT aL aO aH : Nat → Nat) (ah : Nat → Nat → Nat) (aP aX : Nat → Nat)  (res : Int32 × Int32) (A : Nat → Prop) : String → State → State → Prop := vx_X (fun (_ : Unit) => True) (fun E u t => ∃ c : Int32, exN c = E ∧ ¬ c = 0 ∧ (c, (0 : Int32)) = res ∧ True) A
abbrev q_X6_day (dC : Nat → ClassId) (dI : Nat → Nat → Nat) (cI cZ cS : ClassId) (aF aN aT aL aO aH : Nat → Nat) (ah : Nat → Nat → Nat) (aP aX : Nat → Nat)  (res : Int32 × Int32) (A : Nat → Prop) : Array Value → State → Outcome → State → Prop := va_Qi (fun (r : Int32) (u : Unit) => ((0 : Int32), r) = res) (fun _ _ => True) A
set_option maxHeartbeats 4000000 in
set_option maxRecDepth 100000 in
theorem met_X6_day (l : Launch) (hfl : l.stackTraces = false) (dC : Nat → ClassId) (dI : Nat → Nat → Nat) (cI cZ cS : ClassId) (aF aN aT aL aO aH : Nat → Nat) (ah : Nat → Nat → Nat) (aP aX : Nat → Nat) (S : Pic) (Y : Pic) (base sz : Nat) (p1 : Int32) (p2 : Int32) : vx_Met l yX6_day wsX6_day rm_X6_day (va_Pc [.ref (aF 0), .int p1, .int p2] (pX (dC, dI) (tyS cI cZ cS) (wFm aF aN aT aL aO aH aP aX ++ (wSt cI aN S ++ (wLo cI aL Y ++ (wOu aO aN aL)))) base sz)) (q_X6_day dC dI cI cZ cS aF aN aT aL aO aH ah aP aX (f6_day S p1 p2) (a0 sz)) (x_X6_day dC dI cI cZ cS aF aN aT aL aO aH ah aP aX (f6_day S p1 p2) (a0 sz)) 1 6 (a0 sz) := by
  refine vx_ofW (cc := cX6_day) (maxL := 3) (ret := (some .int)) (by decide) rfl ?_
  intro p e s m args below meth c s₁ B hml htab hv
  obtain ⟨rfl, hsz, hP, hK, hD0, hN, hbs, hXW⟩ := hv
  have hx := B.exec
  have hb := B.bytes
  have hr := B.returns
  have hts := atoms_spec (ws := wsX6_day) B.pre
  have hown : s.vm.findClass RX6 = some m.cls := findClass_of_methodNamed B.named
  have hlocks := B.notSynchronized
  subst hsz
  have hD := hD0
  have hA : ∀ q : Nat, s.heap.size ≤ q → a0 s.heap.size q := fun q h => Or.inr h
  have hS : va_S (a0 s.heap.size) s.heap s.heap [] := va_S.rf
  have hAb : ∀ q, a0 s.heap.size q → base ≤ q := base_of (ws := []) (va_D_nil _) hbs
  have hU := hXW.2.1.narrow hAb
  have hNs := hXW.2.2.1.narrow hAb
  have hP : va_P (dC, dI) vwCl (wFm aF aN aT aL aO aH aP aX ++ (wSt cI aN S ++ (wLo cI aL Y ++ (wOu aO aN aL)))) s.heap := hP
  generalize hR : f6_day S p1 p2 = res
  rw [f6_day] at hR
  have hl := lv_entry ([.ref (aF 0), .int p1, .int p2]) (n := 3) (Nat.le_of_ble_eq_true rfl)
  rw [lg_entry_eq]
  generalize (lg_sl ([.ref (aF 0), .int p1, .int p2]) ++ List.replicate (3 - (lg_sl ([.ref (aF 0), .int p1, .int p2])).length) Slot.unset).toArray = ls at hl ⊢
  have hl : lv_has ls 3 [(0, .ref (aF 0)), (1, .int p1), (2, .int p2)] := hl
  refine lv_iload_n hx hb dX6_day_0 rfl (lv_at hl 1 rfl) ?_
  refine va_calli (va_runS (As := [.int p1]) (rest := []) ⟨hx, hb, hml, hown, hts⟩ (met_X6_isDay l dC dI cI cZ cS s.heap.size p1) (va_cwS 1 hts gX6_day_X6_isDay rfl rfl rfl (by decide +kernel) ⟨Nat.le_of_ble_eq_true rfl, Nat.le_of_ble_eq_true rfl⟩) (pS (wc := []) hK hP hD hN [] rfl (by decide)) rfl rfl hl.1 rfl (lv_room (Nat.le_of_ble_eq_true rfl)) dX6_day_1 ⟨Nat.zero_le _, Nat.zero_le _⟩) hS (fun q _ h => a0_in hS hA q h) (a0_in hS hA) (fun r1 u t H1 locs ht hvm hw hB hz1 hk1 hS => ?_)
  obtain ⟨hw, nb2⟩ := hw
  subst hw
  have hP := rdk hP hk1
  refine lv_if_ne (tgt := 17) hx hb dX6_day_4 (by decide) (fun c_3 => ?_) (fun c_3 => ?_)
  · rw [if_neg c_3] at hR
    refine lv_iload_n hx hb dX6_day_17 rfl (lv_at hl 2 rfl) ?_
    refine lv_iconst (v := (0 : Int32)) hx hb dX6_day_18 (by decide) ?_
    refine lv_iconst (v := (4 : Int32)) hx hb dX6_day_19 (by decide) ?_
    refine va_calli (va_runS (As := [.int p2, .int (0 : Int32), .int (4 : Int32)]) (rest := []) ⟨hx, hb, hml, hown, hts⟩ (met_X6_isWithin l dC dI cI cZ cS H1.size p2 (0 : Int32) (4 : Int32)) (va_cwS 3 hts gX6_day_X6_isWithin rfl rfl rfl (by decide +kernel) ⟨Nat.le_of_ble_eq_true rfl, Nat.le_of_ble_eq_true rfl⟩) (pS (wc := []) hK hP hD hN [] rfl (by decide)) rfl rfl hl.1 rfl (lv_room (Nat.le_of_ble_eq_true rfl)) dX6_day_20 ⟨Nat.zero_le _, Nat.zero_le _⟩) hS (fun q _ h => a0_in hS hA q h) (a0_in hS hA) (fun r4 u t H2 locs ht hvm hw hB hz1 hk1 hS => ?_)
    obtain ⟨hw, nb5⟩ := hw
    subst hw
    have hP := rdk hP hk1
    refine lv_if_ne (tgt := 37) hx hb dX6_day_23 (by decide) (fun c_6 => ?_) (fun c_6 => ?_)
    · rw [if_neg c_6] at hR
      refine lv_aload_n hx hb dX6_day_37 rfl (lv_at hl 0 rfl) ?_
      refine lv_iload_n hx hb dX6_day_38 rfl (lv_at hl 1 rfl) ?_
      refine lv_iload_n hx hb dX6_day_39 rfl (lv_at hl 2 rfl) ?_
      refine va_calli (va_runV (As := [.int p1, .int p2]) (rest := []) ⟨hx, hb, hml, hown, hts⟩ (met_X6_figureOfDay l dC dI cI cZ cS aF aN aT aL aO aH ah aP aX S Y H2.size p1 p2) (cwV 2 hts gX6_day_X6_figureOfDay rfl rfl rfl (by decide +kernel) ⟨Nat.le_of_ble_eq_true rfl, Nat.le_of_ble_eq_true rfl⟩) (pV (wc := wFm aF aN aT aL aO aH aP aX ++ (wSt cI aN S ++ (wLo cI aL Y ++ (wOu aO aN aL)))) (ci := 6) (q0 := 0) hK hP hD hN [0, 1, 2, 3, 4, 5, 6, 7, 8, 9, 10, 11, 12, 13, 14, 15] rfl (by decide) rfl rfl) rfl rfl hl.1 rfl (lv_room (Nat.le_of_ble_eq_true rfl)) dX6_day_40 ⟨Nat.zero_le _, Nat.zero_le _⟩) hS (fun q _ h => a0_in hS hA q h) (a0_in hS hA) (fun r7 u t H3 locs ht hvm hw hB hz1 hk1 hS => ?_)
      have hR := bd_n hw hR
      have hP := rdk hP hk1
      exact vx_ret (W.widen (k := 1) (n := 6) (Nat.zero_le _) (Nat.zero_le _) (W.iret (v := r7) hx hb hr (fun t ht hW => ⟨⟨r7, (), rfl, hR, trivial⟩, hS.F ht⟩) hS.2.2 dX6_day_43))
    · rw [if_pos c_6] at hR
      obtain ⟨sa, hsa⟩ := hXW.1 301 (by decide)
      exact vx_throwSW (text := strT 301) (sa := sa) (A := (a0 s.heap.size)) (names := ["java/lang/RuntimeException", "java/lang/Exception"]) (cls := "java/lang/IllegalArgumentException") hx hb hfl hown (by decide) (by decide) (hw_ hts 3 rfl) (hw_ hts 4 rfl) hsa (thr_at2 hXW (fun w h => hts w (List.mem_cons_of_mem _ (List.mem_append_right _ h)))) (by decide +kernel) hU hNs hS (hl.1.trans hml.symm) dX6_day_26 dX6_day_29 dX6_day_30 dX6_day_33 dX6_day_36 (fun x hx => (htab x hx).elim) (Nat.lt_of_sub_pos (Nat.le_of_ble_eq_true rfl)) (Nat.le_of_ble_eq_true rfl) (Nat.le_of_ble_eq_true rfl) (Nat.le_of_ble_eq_true rfl) hlocks (fun t h1 h2 h3 => ⟨(), trivial, ⟨(2 : Int32), rfl, by decide, hR, trivial⟩, thr_F hS h2 h3⟩) hS.2.2 (Nat.le_of_ble_eq_true rfl) (Nat.le_of_ble_eq_true rfl)
  · rw [if_pos c_3] at hR
    obtain ⟨sa, hsa⟩ := hXW.1 202 (by decide)
    exact vx_throwS (text := strT 202) (sa := sa) (A := (a0 s.heap.size)) (names := ["java/lang/RuntimeException", "java/lang/Exception"]) (cls := "java/lang/IndexOutOfBoundsException") hx hb hfl hown (by decide) (by decide) (hw_ hts 1 rfl) (hw_ hts 2 rfl) hsa (thr_at1 hXW (fun w h => hts w (List.mem_cons_of_mem _ (List.mem_append_left _ (List.mem_append_right _ h))))) (by decide +kernel) hU hNs hS (hl.1.trans hml.symm) dX6_day_7 dX6_day_10 dX6_day_11 dX6_day_13 dX6_day_16 (fun x hx => (htab x hx).elim) (Nat.lt_of_sub_pos (Nat.le_of_ble_eq_true rfl)) (Nat.le_of_ble_eq_true rfl) (Nat.le_of_ble_eq_true rfl) (Nat.le_of_ble_eq_true rfl) hlocks (fun t h1 h2 h3 => ⟨(), trivial, ⟨(1 : Int32), rfl, by decide, hR, trivial⟩, thr_F hS h2 h3⟩) hS.2.2 (Nat.le_of_ble_eq_true rfl) (Nat.le_of_ble_eq_true rfl)
abbrev rm_X6_joyOn : Room := { frames := 6, cells := 1, slots := 6, locals := 90 }
abbrev x_X6_joyOn (dC : Nat → ClassId) (dI : Nat → Nat → Nat) (cI cZ cS : ClassId) (aF aN aT aL aO aH : Nat → Nat) (ah : Nat → Nat → Nat) (aP aX : Nat → Nat)  (res : Int32 × Int32) (A : Nat → Prop) : String → State → State → Prop := vx_X (fun (_ : Unit) => True) (fun E u t => ∃ c : Int32, exN c = E ∧ ¬ c = 0 ∧ (c, (0 : Int32)) = res ∧ True) A
abbrev q_X6_joyOn (dC : Nat → ClassId) (dI : Nat → Nat → Nat) (cI cZ cS : ClassId) (aF aN aT aL aO aH : Nat → Nat) (ah : Nat → Nat → Nat) (aP aX : Nat → Nat)  (res : Int32 × Int32) (A : Nat → Prop) : Array Value → State → Outcome → State → Prop := va_Qi (fun (r : Int32) (u : Unit) => ((0 : Int32), r) = res) (fun _ _ => True) A
set_option maxHeartbeats 4000000 in
set_option maxRecDepth 100000 in
theorem met_X6_joyOn (l : Launch) (hfl : l.stackTraces = false) (dC : Nat → ClassId) (dI : Nat → Nat → Nat) (cI cZ cS : ClassId) (aF aN aT aL aO aH : Nat → Nat) (ah : Nat → Nat → Nat) (aP aX : Nat → Nat) (S : Pic) (Y : Pic) (base sz : Nat) (p1 : Int32) (p2 : Int32) : vx_Met l yX6_joyOn wsX6_joyOn rm_X6_joyOn (va_Pc [.ref (aF 0), .int p1, .int p2] (pX (dC, dI) (tyS cI cZ cS) (wFm aF aN aT aL aO aH aP aX ++ (wSt cI aN S ++ (wLo cI aL Y ++ (wOu aO aN aL)))) base sz)) (q_X6_joyOn dC dI cI cZ cS aF aN aT aL aO aH ah aP aX (f6_joyOn S p1 p2) (a0 sz)) (x_X6_joyOn dC dI cI cZ cS aF aN aT aL aO aH ah aP aX (f6_joyOn S p1 p2) (a0 sz)) 1 6 (a0 sz) := by
  refine vx_ofW (cc := cX6_joyOn) (maxL := 3) (ret := (some .int)) (by decide) rfl ?_
  intro p e s m args below meth c s₁ B hml htab hv
  obtain ⟨rfl, hsz, hP, hK, hD0, hN, hbs, hXW⟩ := hv
  have hx := B.exec
  have hb := B.bytes
  have hr := B.returns
  have hts := atoms_spec (ws := wsX6_joyOn) B.pre
  have hown : s.vm.findClass RX6 = some m.cls := findClass_of_methodNamed B.named
  have hlocks := B.notSynchronized
  subst hsz
  have hD := hD0
  have hA : ∀ q : Nat, s.heap.size ≤ q → a0 s.heap.size q := fun q h => Or.inr h
  have hS : va_S (a0 s.heap.size) s.heap s.heap [] := va_S.rf
  have hAb : ∀ q, a0 s.heap.size q → base ≤ q := base_of (ws := []) (va_D_nil _) hbs
  have hU := hXW.2.1.narrow hAb
  have hNs := hXW.2.2.1.narrow hAb
  have hP : va_P (dC, dI) vwCl (wFm aF aN aT aL aO aH aP aX ++ (wSt cI aN S ++ (wLo cI aL Y ++ (wOu aO aN aL)))) s.heap := hP
  generalize hR : f6_joyOn S p1 p2 = res
  rw [f6_joyOn] at hR
  have hin6 : ∀ w ∈ wsX60, w ∈ wsX6_joyOn := by decide +kernel
  have hl := lv_entry ([.ref (aF 0), .int p1, .int p2]) (n := 3) (Nat.le_of_ble_eq_true rfl)
  rw [lg_entry_eq]
  generalize (lg_sl ([.ref (aF 0), .int p1, .int p2]) ++ List.replicate (3 - (lg_sl ([.ref (aF 0), .int p1, .int p2])).length) Slot.unset).toArray = ls at hl ⊢
  have hl : lv_has ls 3 [(0, .ref (aF 0)), (1, .int p1), (2, .int p2)] := hl
  refine lv_iload_n hx hb dX6_joyOn_0 rfl (lv_at hl 1 rfl) ?_
  refine va_calli (va_runS (As := [.int p1]) (rest := []) ⟨hx, hb, hml, hown, hts⟩ (met_X6_isDay l dC dI cI cZ cS s.heap.size p1) (va_cwS 1 hts gX6_joyOn_X6_isDay rfl rfl rfl (by decide +kernel) ⟨Nat.le_of_ble_eq_true rfl, Nat.le_of_ble_eq_true rfl⟩) (pS (wc := []) hK hP hD hN [] rfl (by decide)) rfl rfl hl.1 rfl (lv_room (Nat.le_of_ble_eq_true rfl)) dX6_joyOn_1 ⟨Nat.zero_le _, Nat.zero_le _⟩) hS (fun q _ h => a0_in hS hA q h) (a0_in hS hA) (fun r1 u t H1 locs ht hvm hw hB hz1 hk1 hS => ?_)
  obtain ⟨hw, nb2⟩ := hw
  subst hw
  have hP := rdk hP hk1
  refine lv_if_eq (tgt := 18) hx hb dX6_joyOn_4 (by decide) (fun c_3 => ?_) (fun c_3 => ?_)
  · rw [if_pos c_3] at hR
    obtain ⟨sa, hsa⟩ := hXW.1 174 (by decide)
    exact vx_throwS (text := strT 174) (sa := sa) (A := (a0 s.heap.size)) (names := ["java/lang/RuntimeException", "java/lang/Exception"]) (cls := "java/lang/IndexOutOfBoundsException") hx hb hfl hown (by decide) (by decide) (hw_ hts 1 rfl) (hw_ hts 2 rfl) hsa (thr_at1 hXW (fun w h => hts w (List.mem_cons_of_mem _ (List.mem_append_right _ h)))) (by decide +kernel) hU hNs hS (hl.1.trans hml.symm) dX6_joyOn_18 dX6_joyOn_21 dX6_joyOn_22 dX6_joyOn_24 dX6_joyOn_27 (fun x hx => (htab x hx).elim) (Nat.lt_of_sub_pos (Nat.le_of_ble_eq_true rfl)) (Nat.le_of_ble_eq_true rfl) (Nat.le_of_ble_eq_true rfl) (Nat.le_of_ble_eq_true rfl) hlocks (fun t h1 h2 h3 => ⟨(), trivial, ⟨(1 : Int32), rfl, by decide, hR, trivial⟩, thr_F hS h2 h3⟩) hS.2.2 (Nat.le_of_ble_eq_true rfl) (Nat.le_of_ble_eq_true rfl)
  · rw [if_neg c_3] at hR
    refine lv_aload_n hx hb dX6_joyOn_7 rfl (lv_at hl 0 rfl) ?_
    refine va_get (D := (dC, dI)) (ci := 6) (v := .ref (aN 0)) (C := RX6) (T := TX6) (N := 7) hx hb hts hin6 hown hK hP 0 rfl rfl 0 (by decide) (hw_ hts 3 rfl) (fun _ h9 => h9) rfl dX6_joyOn_8 ?_
    refine lv_iload_n hx hb dX6_joyOn_11 rfl (lv_at hl 2 rfl) ?_
    refine va_calli (va_runV (As := [.int p2]) (rest := []) ⟨hx, hb, hml, hown, hts⟩ (met_X5_hasDish l dC dI cI cZ cS aN S H1.size p2) (cwV 1 hts gX6_joyOn_X5_hasDish rfl rfl rfl (by decide +kernel) ⟨Nat.le_of_ble_eq_true rfl, Nat.le_of_ble_eq_true rfl⟩) (pV (wc := wSt cI aN S) (ci := 5) (q0 := 1) hK hP hD hN [1, 2, 3, 4, 5, 6, 7, 8, 9, 10, 11] rfl (by decide) rfl rfl) rfl rfl hl.1 rfl (lv_room (Nat.le_of_ble_eq_true rfl)) dX6_joyOn_12 ⟨Nat.zero_le _, Nat.zero_le _⟩) hS (fun q _ h => a0_in hS hA q h) (a0_in hS hA) (fun r4 u t H2 locs ht hvm hw hB hz1 hk1 hS => ?_)
    obtain ⟨hw, nb5⟩ := hw
    subst hw
    have hP := rdk hP hk1
    refine lv_if_ne (tgt := 28) hx hb dX6_joyOn_15 (by decide) (fun c_6 => ?_) (fun c_6 => ?_)
    · rw [if_neg c_6] at hR
      refine lv_aload_n hx hb dX6_joyOn_28 rfl (lv_at hl 0 rfl) ?_
      refine va_get (D := (dC, dI)) (ci := 6) (v := .ref (aO 0)) (C := RX6) (T := TX6) (N := 7) hx hb hts hin6 hown hK hP 0 rfl rfl 3 (by decide) (hw_ hts 4 rfl) (fun _ h9 => h9) rfl dX6_joyOn_29 ?_
      refine lv_iload_n hx hb dX6_joyOn_32 rfl (lv_at hl 1 rfl) ?_
      refine lv_iload_n hx hb dX6_joyOn_33 rfl (lv_at hl 2 rfl) ?_
      refine va_calli (va_runV (As := [.int p1, .int p2]) (rest := []) ⟨hx, hb, hml, hown, hts⟩ (met_X2_joyOfDish l dC dI cI cZ cS aO aL aN Y S H2.size p1 p2) (cwV 2 hts gX6_joyOn_X2_joyOfDish rfl rfl rfl (by decide +kernel) ⟨Nat.le_of_ble_eq_true rfl, Nat.le_of_ble_eq_true rfl⟩) (pV (wc := wOu aO aN aL ++ (wLo cI aL Y ++ (wSt cI aN S))) (ci := 2) (q0 := 15) hK hP hD hN [15, 12, 13, 14, 1, 2, 3, 4, 5, 6, 7, 8, 9, 10, 11] rfl (by decide) rfl rfl) rfl rfl hl.1 rfl (lv_room (Nat.le_of_ble_eq_true rfl)) dX6_joyOn_34 ⟨Nat.zero_le _, Nat.zero_le _⟩) hS (fun q _ h => a0_in hS hA q h) (a0_in hS hA) (fun r7 u t H3 locs ht hvm hw hB hz1 hk1 hS => ?_)
      have hR := bd_n hw hR
      have hP := rdk hP hk1
      exact vx_ret (W.widen (k := 1) (n := 6) (Nat.zero_le _) (Nat.zero_le _) (W.iret (v := r7) hx hb hr (fun t ht hW => ⟨⟨r7, (), rfl, hR, trivial⟩, hS.F ht⟩) hS.2.2 dX6_joyOn_37))
    · rw [if_pos c_6] at hR
      obtain ⟨sa, hsa⟩ := hXW.1 174 (by decide)
      exact vx_throwS (text := strT 174) (sa := sa) (A := (a0 s.heap.size)) (names := ["java/lang/RuntimeException", "java/lang/Exception"]) (cls := "java/lang/IndexOutOfBoundsException") hx hb hfl hown (by decide) (by decide) (hw_ hts 1 rfl) (hw_ hts 2 rfl) hsa (thr_at1 hXW (fun w h => hts w (List.mem_cons_of_mem _ (List.mem_append_right _ h)))) (by decide +kernel) hU hNs hS (hl.1.trans hml.symm) dX6_joyOn_18 dX6_joyOn_21 dX6_joyOn_22 dX6_joyOn_24 dX6_joyOn_27 (fun x hx => (htab x hx).elim) (Nat.lt_of_sub_pos (Nat.le_of_ble_eq_true rfl)) (Nat.le_of_ble_eq_true rfl) (Nat.le_of_ble_eq_true rfl) (Nat.le_of_ble_eq_true rfl) hlocks (fun t h1 h2 h3 => ⟨(), trivial, ⟨(1 : Int32), rfl, by decide, hR, trivial⟩, thr_F hS h2 h3⟩) hS.2.2 (Nat.le_of_ble_eq_true rfl) (Nat.le_of_ble_eq_true rfl)
abbrev rm_X6_dish : Room := { frames := 6, cells := 1, slots := 6, locals := 145 }
abbrev x_X6_dish (dC : Nat → ClassId) (dI : Nat → Nat → Nat) (cI cZ cS : ClassId) (aF aN aT aL aO aH : Nat → Nat) (ah : Nat → Nat → Nat) (aP aX : Nat → Nat) (S : Pic) (res : Int32 × Int32 × Pic) (A : Nat → Prop) : String → State → State → Prop := vx_X (fun (_ : Pic) => True) (fun E u t => ∃ c : Int32, exN c = E ∧ ¬ c = 0 ∧ (c, (0 : Int32), u) = res ∧ va_P (dC, dI) vwCl (wFm aF aN aT aL aO aH aP aX ++ (wSt cI aN S ++ (wLo cI aL u))) t.heap) A
abbrev q_X6_dish (dC : Nat → ClassId) (dI : Nat → Nat → Nat) (cI cZ cS : ClassId) (aF aN aT aL aO aH : Nat → Nat) (ah : Nat → Nat → Nat) (aP aX : Nat → Nat) (S : Pic) (res : Int32 × Int32 × Pic) (A : Nat → Prop) : Array Value → State → Outcome → State → Prop := va_Qi (fun (r : Int32) (u : Pic) => ((0 : Int32), r, u) = res) (fun u t => va_P (dC, dI) vwCl (wFm aF aN aT aL aO aH aP aX ++ (wSt cI aN S ++ (wLo cI aL u))) t.heap) A
set_option maxHeartbeats 4000000 in
set_option maxRecDepth 100000 in
theorem met_X6_dish (l : Launch) (hfl : l.stackTraces = false) (dC : Nat → ClassId) (dI : Nat → Nat → Nat) (cI cZ cS : ClassId) (aF aN aT aL aO aH : Nat → Nat) (ah : Nat → Nat → Nat) (aP aX : Nat → Nat) (S : Pic) (Y : Pic) (base sz : Nat) (p1 : Int32) (p2 : Int32) : vx_Met l yX6_dish wsX6_dish rm_X6_dish (va_Pc [.ref (aF 0), .int p1, .int p2] (pX (dC, dI) (tyS cI cZ cS) (wFm aF aN aT aL aO aH aP aX ++ (wSt cI aN S ++ (wLo cI aL Y))) base sz)) (q_X6_dish dC dI cI cZ cS aF aN aT aL aO aH ah aP aX S (f6_dish S Y p1 p2) (va_A (wFm aF aN aT aL aO aH aP aX ++ (wSt cI aN S ++ (wLo cI aL Y))) sz)) (x_X6_dish dC dI cI cZ cS aF aN aT aL aO aH ah aP aX S (f6_dish S Y p1 p2) (va_A (wFm aF aN aT aL aO aH aP aX ++ (wSt cI aN S ++ (wLo cI aL Y))) sz)) 1 6 (va_A (wFm aF aN aT aL aO aH aP aX ++ (wSt cI aN S ++ (wLo cI aL Y))) sz) := by
  refine vx_ofW (cc := cX6_dish) (maxL := 3) (ret := (some .int)) (by decide) rfl ?_
  intro p e s m args below meth c s₁ B hml htab hv
  obtain ⟨rfl, hsz, hP, hK, hD0, hN, hbs, hXW⟩ := hv
  have hx := B.exec
  have hb := B.bytes
  have hr := B.returns
  have hts := atoms_spec (ws := wsX6_dish) B.pre
  have hown : s.vm.findClass RX6 = some m.cls := findClass_of_methodNamed B.named
  have hlocks := B.notSynchronized
  subst hsz
  have hD := hD0.self (sz := s.heap.size)
  generalize hAe : va_A (wFm aF aN aT aL aO aH aP aX ++ (wSt cI aN S ++ (wLo cI aL Y))) s.heap.size = A at hD ⊢
  have hA : ∀ q : Nat, s.heap.size ≤ q → A q := fun q h => by rw [← hAe]; exact Or.inr h
  have hS : va_S A s.heap s.heap [] := va_S.rf
  have hAb : ∀ q, A q → base ≤ q := fun q h => by rw [← hAe] at h; exact base_of hD0 hbs q h
  have hU := hXW.2.1.narrow hAb
  have hNs := hXW.2.2.1.narrow hAb
  have hP : va_P (dC, dI) vwCl (wFm aF aN aT aL aO aH aP aX ++ (wSt cI aN S ++ (wLo cI aL Y))) s.heap := hP
  generalize hR : f6_dish S Y p1 p2 = res
  rw [f6_dish] at hR
  have hin6 : ∀ w ∈ wsX60, w ∈ wsX6_dish := by decide +kernel
  have hl := lv_entry ([.ref (aF 0), .int p1, .int p2]) (n := 3) (Nat.le_of_ble_eq_true rfl)
  rw [lg_entry_eq]
  generalize (lg_sl ([.ref (aF 0), .int p1, .int p2]) ++ List.replicate (3 - (lg_sl ([.ref (aF 0), .int p1, .int p2])).length) Slot.unset).toArray = ls at hl ⊢
  have hl : lv_has ls 3 [(0, .ref (aF 0)), (1, .int p1), (2, .int p2)] := hl
  refine lv_aload_n hx hb dX6_dish_0 rfl (lv_at hl 0 rfl) ?_
  refine va_get (D := (dC, dI)) (ci := 6) (v := .ref (aN 0)) (C := RX6) (T := TX6) (N := 7) hx hb hts hin6 hown hK hP 0 rfl rfl 0 (by decide) (hw_ hts 5 rfl) (fun _ h9 => h9) rfl dX6_dish_1 ?_
  refine lv_iload_n hx hb dX6_dish_4 rfl (lv_at hl 1 rfl) ?_
  refine va_calli (va_runV (As := [.int p1]) (rest := []) ⟨hx, hb, hml, hown, hts⟩ (met_X5_hasDish l dC dI cI cZ cS aN S s.heap.size p1) (cwV 1 hts gX6_dish_X5_hasDish rfl rfl rfl (by decide +kernel) ⟨Nat.le_of_ble_eq_true rfl, Nat.le_of_ble_eq_true rfl⟩) (pV (wc := wSt cI aN S) (ci := 5) (q0 := 1) hK hP hD hN [1, 2, 3, 4, 5, 6, 7, 8, 9, 10, 11] rfl (by decide) rfl rfl) rfl rfl hl.1 rfl (lv_room (Nat.le_of_ble_eq_true rfl)) dX6_dish_5 ⟨Nat.zero_le _, Nat.zero_le _⟩) hS (fun q _ h => a0_in hS hA q h) (a0_in hS hA) (fun r1 u t H1 locs ht hvm hw hB hz1 hk1 hS => ?_)
  obtain ⟨hw, nb2⟩ := hw
  subst hw
  have hP := rdk hP hk1
  refine lv_if_ne (tgt := 21) hx hb dX6_dish_8 (by decide) (fun c_3 => ?_) (fun c_3 => ?_)
  · rw [if_neg c_3] at hR
    refine lv_iload_n hx hb dX6_dish_21 rfl (lv_at hl 2 rfl) ?_
    refine lv_iconst (v := (0 : Int32)) hx hb dX6_dish_22 (by decide) ?_
    refine lv_bipush (v := (8 : Int32)) hx hb dX6_dish_23 (by decide) ?_
    refine va_calli (va_runS (As := [.int p2, .int (0 : Int32), .int (8 : Int32)]) (rest := []) ⟨hx, hb, hml, hown, hts⟩ (met_X6_isWithin l dC dI cI cZ cS H1.size p2 (0 : Int32) (8 : Int32)) (va_cwS 3 hts gX6_dish_X6_isWithin rfl rfl rfl (by decide +kernel) ⟨Nat.le_of_ble_eq_true rfl, Nat.le_of_ble_eq_true rfl⟩) (pS (wc := []) hK hP hD hN [] rfl (by decide)) rfl rfl hl.1 rfl (lv_room (Nat.le_of_ble_eq_true rfl)) dX6_dish_25 ⟨Nat.zero_le _, Nat.zero_le _⟩) hS (fun q _ h => a0_in hS hA q h) (a0_in hS hA) (fun r4 u t H2 locs ht hvm hw hB hz1 hk1 hS => ?_)
    obtain ⟨hw, nb5⟩ := hw
    subst hw
    have hP := rdk hP hk1
    refine lv_if_ne (tgt := 42) hx hb dX6_dish_28 (by decide) (fun c_6 => ?_) (fun c_6 => ?_)
    · rw [if_neg c_6] at hR
      refine lv_aload_n hx hb dX6_dish_42 rfl (lv_at hl 0 rfl) ?_
      refine lv_iload_n hx hb dX6_dish_43 rfl (lv_at hl 1 rfl) ?_
      refine lv_iload_n hx hb dX6_dish_44 rfl (lv_at hl 2 rfl) ?_
      have hF := va_free (wc := wFm aF aN aT aL aO aH aP aX ++ (wSt cI aN S ++ (wLo cI aL Y))) hD hS hA [0, 1, 2, 3, 4, 5, 6, 7, 8, 9, 10, 11, 12, 13, 14] rfl
      refine va_calli (va_runV (As := [.int p1, .int p2]) (rest := []) ⟨hx, hb, hml, hown, hts⟩ (met_X6_figureOfDish l dC dI cI cZ cS aF aN aT aL aO aH ah aP aX S Y H2.size p1 p2) (cwV 2 hts gX6_dish_X6_figureOfDish rfl rfl rfl (by decide +kernel) ⟨Nat.le_of_ble_eq_true rfl, Nat.le_of_ble_eq_true rfl⟩) (pV (wc := wFm aF aN aT aL aO aH aP aX ++ (wSt cI aN S ++ (wLo cI aL Y))) (ci := 6) (q0 := 0) hK hP hD hN [0, 1, 2, 3, 4, 5, 6, 7, 8, 9, 10, 11, 12, 13, 14] rfl (by decide) rfl rfl) rfl rfl hl.1 rfl (lv_room (Nat.le_of_ble_eq_true rfl)) dX6_dish_45 ⟨Nat.zero_le _, Nat.zero_le _⟩) hS (fun q _ h => hF q h) hF (fun r7 u8 t H3 locs ht hvm hw hB hz1 hk1 hS => ?_)
      try dsimp only at hw hB
      rw [ht] at hB
      have hR := bd2_n hw hR
      have hP := wrk2 (w2 := wFm aF aN aT aL aO aH aP aX ++ (wSt cI aN S ++ (wLo cI aL u8))) (wr := []) hP hD [0, 1, 2, 3, 4, 5, 6, 7, 8, 9, 10, 11, 12, 13, 14] [] rfl rfl (by decide) hk1 hB [0, 1, 2, 3, 4, 5, 6, 7, 8, 9, 10, 11, 12, 13, 14] rfl
      have hD := D_addr (w1 := wFm aF aN aT aL aO aH aP aX ++ (wSt cI aN S ++ (wLo cI aL u8))) hD rfl
      exact vx_ret (W.widen (k := 1) (n := 6) (Nat.zero_le _) (Nat.zero_le _) (W.iret (v := r7) hx hb hr (fun t ht hW => ⟨⟨r7, u8, rfl, hR, P_at ht hP⟩, hS.F ht⟩) hS.2.2 dX6_dish_48))
    · rw [if_pos c_6] at hR
      obtain ⟨sa, hsa⟩ := hXW.1 291 (by decide)
      exact vx_throwSW (text := strT 291) (sa := sa) (A := A) (names := ["java/lang/RuntimeException", "java/lang/Exception"]) (cls := "java/lang/IllegalArgumentException") hx hb hfl hown (by decide) (by decide) (hw_ hts 3 rfl) (hw_ hts 4 rfl) hsa (thr_at2 hXW (fun w h => hts w (List.mem_cons_of_mem _ (List.mem_append_right _ h)))) (by decide +kernel) hU hNs hS (hl.1.trans hml.symm) dX6_dish_31 dX6_dish_34 dX6_dish_35 dX6_dish_38 dX6_dish_41 (fun x hx => (htab x hx).elim) (Nat.lt_of_sub_pos (Nat.le_of_ble_eq_true rfl)) (Nat.le_of_ble_eq_true rfl) (Nat.le_of_ble_eq_true rfl) (Nat.le_of_ble_eq_true rfl) hlocks (fun t h1 h2 h3 => ⟨Y, trivial, ⟨(2 : Int32), rfl, by decide, hR, thr_P hP h3⟩, thr_F hS h2 h3⟩) hS.2.2 (Nat.le_of_ble_eq_true rfl) (Nat.le_of_ble_eq_true rfl)
  · rw [if_pos c_3] at hR
    obtain ⟨sa, hsa⟩ := hXW.1 90 (by decide)
    exact vx_throwS (text := strT 90) (sa := sa) (A := A) (names := ["java/lang/RuntimeException", "java/lang/Exception"]) (cls := "java/lang/IndexOutOfBoundsException") hx hb hfl hown (by decide) (by decide) (hw_ hts 1 rfl) (hw_ hts 2 rfl) hsa (thr_at1 hXW (fun w h => hts w (List.mem_cons_of_mem _ (List.mem_append_left _ (List.mem_append_right _ h))))) (by decide +kernel) hU hNs hS (hl.1.trans hml.symm) dX6_dish_11 dX6_dish_14 dX6_dish_15 dX6_dish_17 dX6_dish_20 (fun x hx => (htab x hx).elim) (Nat.lt_of_sub_pos (Nat.le_of_ble_eq_true rfl)) (Nat.le_of_ble_eq_true rfl) (Nat.le_of_ble_eq_true rfl) (Nat.le_of_ble_eq_true rfl) hlocks (fun t h1 h2 h3 => ⟨Y, trivial, ⟨(1 : Int32), rfl, by decide, hR, thr_P hP h3⟩, thr_F hS h2 h3⟩) hS.2.2 (Nat.le_of_ble_eq_true rfl) (Nat.le_of_ble_eq_true rfl)
abbrev rm_X6_source : Room := { frames := 6, cells := 1, slots := 6, locals := 102 }
abbrev x_X6_source (dC : Nat → ClassId) (dI : Nat → Nat → Nat) (cI cZ cS : ClassId) (aF aN aT aL aO aH : Nat → Nat) (ah : Nat → Nat → Nat) (aP aX : Nat → Nat) (S : Pic) (res : Int32 × Int32 × Pic) (A : Nat → Prop) : String → State → State → Prop := vx_X (fun (_ : Pic) => True) (fun E u t => ∃ c : Int32, exN c = E ∧ ¬ c = 0 ∧ (c, (0 : Int32), u) = res ∧ va_P (dC, dI) vwCl (wFm aF aN aT aL aO aH aP aX ++ (wSt cI aN S ++ (wLo cI aL u))) t.heap) A
abbrev q_X6_source (dC : Nat → ClassId) (dI : Nat → Nat → Nat) (cI cZ cS : ClassId) (aF aN aT aL aO aH : Nat → Nat) (ah : Nat → Nat → Nat) (aP aX : Nat → Nat) (S : Pic) (res : Int32 × Int32 × Pic) (A : Nat → Prop) : Array Value → State → Outcome → State → Prop := va_Qi (fun (r : Int32) (u : Pic) => ((0 : Int32), r, u) = res) (fun u t => va_P (dC, dI) vwCl (wFm aF aN aT aL aO aH aP aX ++ (wSt cI aN S ++ (wLo cI aL u))) t.heap) A
set_option maxHeartbeats 4000000 in
set_option maxRecDepth 100000 in
theorem met_X6_source (l : Launch) (hfl : l.stackTraces = false) (dC : Nat → ClassId) (dI : Nat → Nat → Nat) (cI cZ cS : ClassId) (aF aN aT aL aO aH : Nat → Nat) (ah : Nat → Nat → Nat) (aP aX : Nat → Nat) (S : Pic) (Y : Pic) (base sz : Nat) (p1 : Int32) (p2 : Int32) : vx_Met l yX6_source wsX6_source rm_X6_source (va_Pc [.ref (aF 0), .int p1, .int p2] (pX (dC, dI) (tyS cI cZ cS) (wFm aF aN aT aL aO aH aP aX ++ (wSt cI aN S ++ (wLo cI aL Y))) base sz)) (q_X6_source dC dI cI cZ cS aF aN aT aL aO aH ah aP aX S (f6_source S Y p1 p2) (va_A (wFm aF aN aT aL aO aH aP aX ++ (wSt cI aN S ++ (wLo cI aL Y))) sz)) (x_X6_source dC dI cI cZ cS aF aN aT aL aO aH ah aP aX S (f6_source S Y p1 p2) (va_A (wFm aF aN aT aL aO aH aP aX ++ (wSt cI aN S ++ (wLo cI aL Y))) sz)) 1 6 (va_A (wFm aF aN aT aL aO aH aP aX ++ (wSt cI aN S ++ (wLo cI aL Y))) sz) := by
  refine vx_ofW (cc := cX6_source) (maxL := 3) (ret := (some .int)) (by decide) rfl ?_
  intro p e s m args below meth c s₁ B hml htab hv
  obtain ⟨rfl, hsz, hP, hK, hD0, hN, hbs, hXW⟩ := hv
  have hx := B.exec
  have hb := B.bytes
  have hr := B.returns
  have hts := atoms_spec (ws := wsX6_source) B.pre
  have hown : s.vm.findClass RX6 = some m.cls := findClass_of_methodNamed B.named
  have hlocks := B.notSynchronized
  subst hsz
  have hD := hD0.self (sz := s.heap.size)
  generalize hAe : va_A (wFm aF aN aT aL aO aH aP aX ++ (wSt cI aN S ++ (wLo cI aL Y))) s.heap.size = A at hD ⊢
  have hA : ∀ q : Nat, s.heap.size ≤ q → A q := fun q h => by rw [← hAe]; exact Or.inr h
  have hS : va_S A s.heap s.heap [] := va_S.rf
  have hAb : ∀ q, A q → base ≤ q := fun q h => by rw [← hAe] at h; exact base_of hD0 hbs q h
  have hU := hXW.2.1.narrow hAb
  have hNs := hXW.2.2.1.narrow hAb
  have hP : va_P (dC, dI) vwCl (wFm aF aN aT aL aO aH aP aX ++ (wSt cI aN S ++ (wLo cI aL Y))) s.heap := hP
  generalize hR : f6_source S Y p1 p2 = res
  rw [f6_source] at hR
  have hin6 : ∀ w ∈ wsX60, w ∈ wsX6_source := by decide +kernel
  have hl := lv_entry ([.ref (aF 0), .int p1, .int p2]) (n := 3) (Nat.le_of_ble_eq_true rfl)
  rw [lg_entry_eq]
  generalize (lg_sl ([.ref (aF 0), .int p1, .int p2]) ++ List.replicate (3 - (lg_sl ([.ref (aF 0), .int p1, .int p2])).length) Slot.unset).toArray = ls at hl ⊢
  have hl : lv_has ls 3 [(0, .ref (aF 0)), (1, .int p1), (2, .int p2)] := hl
  refine lv_iload_n hx hb dX6_source_0 rfl (lv_at hl 1 rfl) ?_
  refine va_calli (va_runS (As := [.int p1]) (rest := []) ⟨hx, hb, hml, hown, hts⟩ (met_X6_isDay l dC dI cI cZ cS s.heap.size p1) (va_cwS 1 hts gX6_source_X6_isDay rfl rfl rfl (by decide +kernel) ⟨Nat.le_of_ble_eq_true rfl, Nat.le_of_ble_eq_true rfl⟩) (pS (wc := []) hK hP hD hN [] rfl (by decide)) rfl rfl hl.1 rfl (lv_room (Nat.le_of_ble_eq_true rfl)) dX6_source_1 ⟨Nat.zero_le _, Nat.zero_le _⟩) hS (fun q _ h => a0_in hS hA q h) (a0_in hS hA) (fun r1 u t H1 locs ht hvm hw hB hz1 hk1 hS => ?_)
  obtain ⟨hw, nb2⟩ := hw
  subst hw
  have hP := rdk hP hk1
  refine lv_if_eq (tgt := 14) hx hb dX6_source_4 (by decide) (fun c_3 => ?_) (fun c_3 => ?_)
  · rw [if_pos c_3] at hR
    obtain ⟨sa, hsa⟩ := hXW.1 198 (by decide)
    exact vx_throwS (text := strT 198) (sa := sa) (A := A) (names := ["java/lang/RuntimeException", "java/lang/Exception"]) (cls := "java/lang/IndexOutOfBoundsException") hx hb hfl hown (by decide) (by decide) (hw_ hts 1 rfl) (hw_ hts 2 rfl) hsa (thr_at1 hXW (fun w h => hts w (List.mem_cons_of_mem _ (List.mem_append_right _ h)))) (by decide +kernel) hU hNs hS (hl.1.trans hml.symm) dX6_source_14 dX6_source_17 dX6_source_18 dX6_source_20 dX6_source_23 (fun x hx => (htab x hx).elim) (Nat.lt_of_sub_pos (Nat.le_of_ble_eq_true rfl)) (Nat.le_of_ble_eq_true rfl) (Nat.le_of_ble_eq_true rfl) (Nat.le_of_ble_eq_true rfl) hlocks (fun t h1 h2 h3 => ⟨Y, trivial, ⟨(1 : Int32), rfl, by decide, hR, thr_P hP h3⟩, thr_F hS h2 h3⟩) hS.2.2 (Nat.le_of_ble_eq_true rfl) (Nat.le_of_ble_eq_true rfl)
  · rw [if_neg c_3] at hR
    refine lv_iload_n hx hb dX6_source_7 rfl (lv_at hl 2 rfl) ?_
    refine va_calli (va_runS (As := [.int p2]) (rest := []) ⟨hx, hb, hml, hown, hts⟩ (met_X6_isPart l dC dI cI cZ cS H1.size p2) (va_cwS 1 hts gX6_source_X6_isPart rfl rfl rfl (by decide +kernel) ⟨Nat.le_of_ble_eq_true rfl, Nat.le_of_ble_eq_true rfl⟩) (pS (wc := []) hK hP hD hN [] rfl (by decide)) rfl rfl hl.1 rfl (lv_room (Nat.le_of_ble_eq_true rfl)) dX6_source_8 ⟨Nat.zero_le _, Nat.zero_le _⟩) hS (fun q _ h => a0_in hS hA q h) (a0_in hS hA) (fun r4 u t H2 locs ht hvm hw hB hz1 hk1 hS => ?_)
    obtain ⟨hw, nb5⟩ := hw
    subst hw
    have hP := rdk hP hk1
    refine lv_if_ne (tgt := 24) hx hb dX6_source_11 (by decide) (fun c_6 => ?_) (fun c_6 => ?_)
    · rw [if_neg c_6] at hR
      refine lv_aload_n hx hb dX6_source_24 rfl (lv_at hl 0 rfl) ?_
      refine va_get (D := (dC, dI)) (ci := 6) (v := .ref (aL 0)) (C := RX6) (T := TX6) (N := 7) hx hb hts hin6 hown hK hP 0 rfl rfl 2 (by decide) (hw_ hts 3 rfl) (fun _ h9 => h9) rfl dX6_source_25 ?_
      refine lv_aload_n hx hb dX6_source_28 rfl (lv_at hl 0 rfl) ?_
      refine va_get (D := (dC, dI)) (ci := 6) (v := .ref (aN 0)) (C := RX6) (T := TX6) (N := 7) hx hb hts hin6 hown hK hP 0 rfl rfl 0 (by decide) (hw_ hts 4 rfl) (fun _ h9 => h9) rfl dX6_source_29 ?_
      refine lv_iload_n hx hb dX6_source_32 rfl (lv_at hl 1 rfl) ?_
      refine lv_iload_n hx hb dX6_source_33 rfl (lv_at hl 2 rfl) ?_
      refine va_calli (va_runS (As := [.int p1, .int p2]) (rest := [.ref (aN 0), .ref (aL 0)]) ⟨hx, hb, hml, hown, hts⟩ (met_X6_cellOf l dC dI cI cZ cS H2.size p1 p2) (va_cwS 2 hts gX6_source_X6_cellOf rfl rfl rfl (by decide +kernel) ⟨Nat.le_of_ble_eq_true rfl, Nat.le_of_ble_eq_true rfl⟩) (pS (wc := []) hK hP hD hN [] rfl (by decide)) rfl rfl hl.1 rfl (lv_room (Nat.le_of_ble_eq_true rfl)) dX6_source_34 ⟨Nat.zero_le _, Nat.zero_le _⟩) hS (fun q _ h => a0_in hS hA q h) (a0_in hS hA) (fun r7 u t H3 locs ht hvm hw hB hz1 hk1 hS => ?_)
      subst hw
      have hP := rdk hP hk1
      have hF := va_free (wc := wLo cI aL Y ++ (wSt cI aN S)) hD hS hA [12, 13, 14, 1, 2, 3, 4, 5, 6, 7, 8, 9, 10, 11] rfl
      refine va_calli (va_runV (As := [.ref (aN 0), .int (f6_cellOf p1 p2)]) (rest := []) ⟨hx, hb, hml, hown, hts⟩ (met_X1_sourceDay l dC dI cI cZ cS aL aN Y S H3.size (f6_cellOf p1 p2)) (cwV 2 hts gX6_source_X1_sourceDay rfl rfl rfl (by decide +kernel) ⟨Nat.le_of_ble_eq_true rfl, Nat.le_of_ble_eq_true rfl⟩) (pV (wc := wLo cI aL Y ++ (wSt cI aN S)) (ci := 1) (q0 := 12) hK hP hD hN [12, 13, 14, 1, 2, 3, 4, 5, 6, 7, 8, 9, 10, 11] rfl (by decide) rfl rfl) rfl rfl hl.1 rfl (lv_room (Nat.le_of_ble_eq_true rfl)) dX6_source_37 ⟨Nat.zero_le _, Nat.zero_le _⟩) hS (fun q _ h => hF q h) hF (fun r8 u9 t H4 locs ht hvm hw hB hz1 hk1 hS => ?_)
      try dsimp only at hw hB
      rw [ht] at hB
      have hR := bd2_n hw hR
      have hP := wrk2 (w2 := wFm aF aN aT aL aO aH aP aX ++ (wSt cI aN S ++ (wLo cI aL u9))) (wr := wFm aF aN aT aL aO aH aP aX) hP hD [12, 13, 14, 1, 2, 3, 4, 5, 6, 7, 8, 9, 10, 11] [0] rfl rfl (by decide) hk1 hB [0, 4, 5, 6, 7, 8, 9, 10, 11, 12, 13, 14, 1, 2, 3] rfl
      have hD := D_addr (w1 := wFm aF aN aT aL aO aH aP aX ++ (wSt cI aN S ++ (wLo cI aL u9))) hD rfl
      exact vx_ret (W.widen (k := 1) (n := 6) (Nat.zero_le _) (Nat.zero_le _) (W.iret (v := r8) hx hb hr (fun t ht hW => ⟨⟨r8, u9, rfl, hR, P_at ht hP⟩, hS.F ht⟩) hS.2.2 dX6_source_40))
    · rw [if_pos c_6] at hR
      obtain ⟨sa, hsa⟩ := hXW.1 198 (by decide)
      exact vx_throwS (text := strT 198) (sa := sa) (A := A) (names := ["java/lang/RuntimeException", "java/lang/Exception"]) (cls := "java/lang/IndexOutOfBoundsException") hx hb hfl hown (by decide) (by decide) (hw_ hts 1 rfl) (hw_ hts 2 rfl) hsa (thr_at1 hXW (fun w h => hts w (List.mem_cons_of_mem _ (List.mem_append_right _ h)))) (by decide +kernel) hU hNs hS (hl.1.trans hml.symm) dX6_source_14 dX6_source_17 dX6_source_18 dX6_source_20 dX6_source_23 (fun x hx => (htab x hx).elim) (Nat.lt_of_sub_pos (Nat.le_of_ble_eq_true rfl)) (Nat.le_of_ble_eq_true rfl) (Nat.le_of_ble_eq_true rfl) (Nat.le_of_ble_eq_true rfl) hlocks (fun t h1 h2 h3 => ⟨Y, trivial, ⟨(1 : Int32), rfl, by decide, hR, thr_P hP h3⟩, thr_F hS h2 h3⟩) hS.2.2 (Nat.le_of_ble_eq_true rfl) (Nat.le_of_ble_eq_true rfl)
abbrev rm_X6_count : Room := { frames := 6, cells := 1, slots := 6, locals := 145 }
abbrev x_X6_count (dC : Nat → ClassId) (dI : Nat → Nat → Nat) (cI cZ cS : ClassId) (aF aN aT aL aO aH : Nat → Nat) (ah : Nat → Nat → Nat) (aP aX : Nat → Nat) (S : Pic) (G : Pic) (N : Pic) (res : Int32 × Int32 × Pic) (A : Nat → Prop) : String → State → State → Prop := vx_X (fun (_ : Pic) => True) (fun E u t => ∃ c : Int32, exN c = E ∧ ¬ c = 0 ∧ (c, (0 : Int32), u) = res ∧ va_P (dC, dI) vwCl (wFm aF aN aT aL aO aH aP aX ++ (wSt cI aN S ++ (wLo cI aL u ++ (wOu aO aN aL ++ (wHi cS aH ah G ++ (wSn cI cZ aP N)))))) t.heap) A
abbrev q_X6_count (dC : Nat → ClassId) (dI : Nat → Nat → Nat) (cI cZ cS : ClassId) (aF aN aT aL aO aH : Nat → Nat) (ah : Nat → Nat → Nat) (aP aX : Nat → Nat) (S : Pic) (G : Pic) (N : Pic) (res : Int32 × Int32 × Pic) (A : Nat → Prop) : Array Value → State → Outcome → State → Prop := va_Qi (fun (r : Int32) (u : Pic) => ((0 : Int32), r, u) = res) (fun u t => va_P (dC, dI) vwCl (wFm aF aN aT aL aO aH aP aX ++ (wSt cI aN S ++ (wLo cI aL u ++ (wOu aO aN aL ++ (wHi cS aH ah G ++ (wSn cI cZ aP N)))))) t.heap) A
set_option maxHeartbeats 4000000 in
set_option maxRecDepth 100000 in
theorem met_X6_count (l : Launch) (hfl : l.stackTraces = false) (dC : Nat → ClassId) (dI : Nat → Nat → Nat) (cI cZ cS : ClassId) (aF aN aT aL aO aH : Nat → Nat) (ah : Nat → Nat → Nat) (aP aX : Nat → Nat) (S : Pic) (Y : Pic) (G : Pic) (N : Pic) (base sz : Nat) (p1 : Int32) : vx_Met l yX6_count wsX6_count rm_X6_count (va_Pc [.ref (aF 0), .int p1] (pX (dC, dI) (tyS cI cZ cS) (wFm aF aN aT aL aO aH aP aX ++ (wSt cI aN S ++ (wLo cI aL Y ++ (wOu aO aN aL ++ (wHi cS aH ah G ++ (wSn cI cZ aP N)))))) base sz)) (q_X6_count dC dI cI cZ cS aF aN aT aL aO aH ah aP aX S G N (f6_count S Y G N p1) (va_A (wFm aF aN aT aL aO aH aP aX ++ (wSt cI aN S ++ (wLo cI aL Y ++ (wOu aO aN aL ++ (wHi cS aH ah G ++ (wSn cI cZ aP N)))))) sz)) (x_X6_count dC dI cI cZ cS aF aN aT aL aO aH ah aP aX S G N (f6_count S Y G N p1) (va_A (wFm aF aN aT aL aO aH aP aX ++ (wSt cI aN S ++ (wLo cI aL Y ++ (wOu aO aN aL ++ (wHi cS aH ah G ++ (wSn cI cZ aP N)))))) sz)) 1 6 (va_A (wFm aF aN aT aL aO aH aP aX ++ (wSt cI aN S ++ (wLo cI aL Y ++ (wOu aO aN aL ++ (wHi cS aH ah G ++ (wSn cI cZ aP N)))))) sz) := by
  refine vx_ofW (cc := cX6_count) (maxL := 2) (ret := (some .int)) (by decide) rfl ?_
  intro p e s m args below meth c s₁ B hml htab hv
  obtain ⟨rfl, hsz, hP, hK, hD0, hN, hbs, hXW⟩ := hv
  have hx := B.exec
  have hb := B.bytes
  have hr := B.returns
  have hts := atoms_spec (ws := wsX6_count) B.pre
  have hown : s.vm.findClass RX6 = some m.cls := findClass_of_methodNamed B.named
  have hlocks := B.notSynchronized
  subst hsz
  have hD := hD0.self (sz := s.heap.size)
  generalize hAe : va_A (wFm aF aN aT aL aO aH aP aX ++ (wSt cI aN S ++ (wLo cI aL Y ++ (wOu aO aN aL ++ (wHi cS aH ah G ++ (wSn cI cZ aP N)))))) s.heap.size = A at hD ⊢
  have hA : ∀ q : Nat, s.heap.size ≤ q → A q := fun q h => by rw [← hAe]; exact Or.inr h
  have hS : va_S A s.heap s.heap [] := va_S.rf
  have hAb : ∀ q, A q → base ≤ q := fun q h => by rw [← hAe] at h; exact base_of hD0 hbs q h
  have hU := hXW.2.1.narrow hAb
  have hNs := hXW.2.2.1.narrow hAb
  have hP : va_P (dC, dI) vwCl (wFm aF aN aT aL aO aH aP aX ++ (wSt cI aN S ++ (wLo cI aL Y ++ (wOu aO aN aL ++ (wHi cS aH ah G ++ (wSn cI cZ aP N)))))) s.heap := hP
  generalize hR : f6_count S Y G N p1 = res
  rw [f6_count] at hR
  have hl := lv_entry ([.ref (aF 0), .int p1]) (n := 2) (Nat.le_of_ble_eq_true rfl)
  rw [lg_entry_eq]
  generalize (lg_sl ([.ref (aF 0), .int p1]) ++ List.replicate (2 - (lg_sl ([.ref (aF 0), .int p1])).length) Slot.unset).toArray = ls at hl ⊢
  have hl : lv_has ls 2 [(0, .ref (aF 0)), (1, .int p1)] := hl
  refine lv_iload_n hx hb dX6_count_0 rfl (lv_at hl 1 rfl) ?_
  refine lv_iconst (v := (0 : Int32)) hx hb dX6_count_1 (by decide) ?_
  refine lv_bipush (v := (13 : Int32)) hx hb dX6_count_2 (by decide) ?_
  refine va_calli (va_runS (As := [.int p1, .int (0 : Int32), .int (13 : Int32)]) (rest := []) ⟨hx, hb, hml, hown, hts⟩ (met_X6_isWithin l dC dI cI cZ cS s.heap.size p1 (0 : Int32) (13 : Int32)) (va_cwS 3 hts gX6_count_X6_isWithin rfl rfl rfl (by decide +kernel) ⟨Nat.le_of_ble_eq_true rfl, Nat.le_of_ble_eq_true rfl⟩) (pS (wc := []) hK hP hD hN [] rfl (by decide)) rfl rfl hl.1 rfl (lv_room (Nat.le_of_ble_eq_true rfl)) dX6_count_4 ⟨Nat.zero_le _, Nat.zero_le _⟩) hS (fun q _ h => a0_in hS hA q h) (a0_in hS hA) (fun r1 u t H1 locs ht hvm hw hB hz1 hk1 hS => ?_)
  obtain ⟨hw, nb2⟩ := hw
  subst hw
  have hP := rdk hP hk1
  refine lv_if_ne (tgt := 21) hx hb dX6_count_7 (by decide) (fun c_3 => ?_) (fun c_3 => ?_)
  · rw [if_neg c_3] at hR
    refine lv_aload_n hx hb dX6_count_21 rfl (lv_at hl 0 rfl) ?_
    refine lv_iload_n hx hb dX6_count_22 rfl (lv_at hl 1 rfl) ?_
    have hF := va_free (wc := wFm aF aN aT aL aO aH aP aX ++ (wSt cI aN S ++ (wLo cI aL Y ++ (wOu aO aN aL ++ (wHi cS aH ah G ++ (wSn cI cZ aP N)))))) hD hS hA [0, 1, 2, 3, 4, 5, 6, 7, 8, 9, 10, 11, 12, 13, 14, 15, 16, 17, 18, 19, 20] rfl
    refine va_calli (va_runV (As := [.int p1]) (rest := []) ⟨hx, hb, hml, hown, hts⟩ (met_X6_figureOfAll l dC dI cI cZ cS aF aN aT aL aO aH ah aP aX S Y G N H1.size p1) (cwV 1 hts gX6_count_X6_figureOfAll rfl rfl rfl (by decide +kernel) ⟨Nat.le_of_ble_eq_true rfl, Nat.le_of_ble_eq_true rfl⟩) (pV (wc := wFm aF aN aT aL aO aH aP aX ++ (wSt cI aN S ++ (wLo cI aL Y ++ (wOu aO aN aL ++ (wHi cS aH ah G ++ (wSn cI cZ aP N)))))) (ci := 6) (q0 := 0) hK hP hD hN [0, 1, 2, 3, 4, 5, 6, 7, 8, 9, 10, 11, 12, 13, 14, 15, 16, 17, 18, 19, 20] rfl (by decide) rfl rfl) rfl rfl hl.1 rfl (lv_room (Nat.le_of_ble_eq_true rfl)) dX6_count_23 ⟨Nat.zero_le _, Nat.zero_le _⟩) hS (fun q _ h => hF q h) hF (fun r4 u5 t H2 locs ht hvm hw hB hz1 hk1 hS => ?_)
    try dsimp only at hw hB
    rw [ht] at hB
    have hR := bd2_n hw hR
    have hP := wrk2 (w2 := wFm aF aN aT aL aO aH aP aX ++ (wSt cI aN S ++ (wLo cI aL u5 ++ (wOu aO aN aL ++ (wHi cS aH ah G ++ (wSn cI cZ aP N)))))) (wr := []) hP hD [0, 1, 2, 3, 4, 5, 6, 7, 8, 9, 10, 11, 12, 13, 14, 15, 16, 17, 18, 19, 20] [] rfl rfl (by decide) hk1 hB [0, 1, 2, 3, 4, 5, 6, 7, 8, 9, 10, 11, 12, 13, 14, 15, 16, 17, 18, 19, 20] rfl
    have hD := D_addr (w1 := wFm aF aN aT aL aO aH aP aX ++ (wSt cI aN S ++ (wLo cI aL u5 ++ (wOu aO aN aL ++ (wHi cS aH ah G ++ (wSn cI cZ aP N)))))) hD rfl
    exact vx_ret (W.widen (k := 1) (n := 6) (Nat.zero_le _) (Nat.zero_le _) (W.iret (v := r4) hx hb hr (fun t ht hW => ⟨⟨r4, u5, rfl, hR, P_at ht hP⟩, hS.F ht⟩) hS.2.2 dX6_count_26))
  · rw [if_pos c_3] at hR
    obtain ⟨sa, hsa⟩ := hXW.1 310 (by decide)
    exact vx_throwSW (text := strT 310) (sa := sa) (A := A) (names := ["java/lang/RuntimeException", "java/lang/Exception"]) (cls := "java/lang/IllegalArgumentException") hx hb hfl hown (by decide) (by decide) (hw_ hts 1 rfl) (hw_ hts 2 rfl) hsa (thr_at2 hXW (fun w h => hts w (List.mem_cons_of_mem _ (List.mem_append_right _ h)))) (by decide +kernel) hU hNs hS (hl.1.trans hml.symm) dX6_count_10 dX6_count_13 dX6_count_14 dX6_count_17 dX6_count_20 (fun x hx => (htab x hx).elim) (Nat.lt_of_sub_pos (Nat.le_of_ble_eq_true rfl)) (Nat.le_of_ble_eq_true rfl) (Nat.le_of_ble_eq_true rfl) (Nat.le_of_ble_eq_true rfl) hlocks (fun t h1 h2 h3 => ⟨Y, trivial, ⟨(2 : Int32), rfl, by decide, hR, thr_P hP h3⟩, thr_F hS h2 h3⟩) hS.2.2 (Nat.le_of_ble_eq_true rfl) (Nat.le_of_ble_eq_true rfl)
