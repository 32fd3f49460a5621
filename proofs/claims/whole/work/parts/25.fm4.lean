abbrev rm_X6_leave : Room := { frames := 6, cells := 1, slots := 6, locals := 122 }
abbrev x_X6_leave (dC : Nat → ClassId) (dI : Nat → Nat → Nat) (cI cZ cS : ClassId) (aF aN aT aL aO aH : Nat → Nat) (ah : Nat → Nat → Nat) (aP aX : Nat → Nat)  (res : Int32 × Int32 × Pic × Pic × Pic × Pic × (Nat → Pic)) (A : Nat → Prop) : String → State → State → Prop := vx_X (fun (_ : Pic × Pic × Pic × Pic × (Nat → Pic)) => True) (fun E u t => ∃ c : Int32, exN c = E ∧ ¬ c = 0 ∧ (c, (0 : Int32), u) = res ∧ va_P (dC, dI) vwCl (wFm aF aN aT aL aO aH aP aX ++ (wSt cI aN u.1 ++ (wSt cI aT u.2.1 ++ (wLo cI aL u.2.2.1 ++ (wHi cS aH ah u.2.2.2.1 ++ (wZs cI ah u.2.2.2.2)))))) t.heap) A
abbrev q_X6_leave (dC : Nat → ClassId) (dI : Nat → Nat → Nat) (cI cZ cS : ClassId) (aF aN aT aL aO aH : Nat → Nat) (ah : Nat → Nat → Nat) (aP aX : Nat → Nat)  (res : Int32 × Int32 × Pic × Pic × Pic × Pic × (Nat → Pic)) (A : Nat → Prop) : Array Value → State → Outcome → State → Prop := va_Qi (fun (r : Int32) (u : Pic × Pic × Pic × Pic × (Nat → Pic)) => ((0 : Int32), r, u) = res) (fun u t => va_P (dC, dI) vwCl (wFm aF aN aT aL aO aH aP aX ++ (wSt cI aN u.1 ++ (wSt cI aT u.2.1 ++ (wLo cI aL u.2.2.1 ++ (wHi cS aH ah u.2.2.2.1 ++ (wZs cI ah u.2.2.2.2)))))) t.heap) A
set_option maxHeartbeats 4000000 in
set_option maxRecDepth 100000 in
theorem met_X6_leave (l : Launch) (hfl : l.stackTraces = false) (dC : Nat → ClassId) (dI : Nat → Nat → Nat) (cI cZ cS : ClassId) (aF aN aT aL aO aH : Nat → Nat) (ah : Nat → Nat → Nat) (aP aX : Nat → Nat) (S : Pic) (R : Pic) (Y : Pic) (G : Pic) (Z : (Nat → Pic)) (base sz : Nat) (p1 : Int32) (p2 : Int32) (p3 : Int32) : vx_Met l yX6_leave wsX6_leave rm_X6_leave (va_Pc [.ref (aF 0), .int p1, .int p2, .int p3] (pX (dC, dI) (tyS cI cZ cS) (wFm aF aN aT aL aO aH aP aX ++ (wSt cI aN S ++ (wSt cI aT R ++ (wLo cI aL Y ++ (wHi cS aH ah G ++ (wZs cI ah Z)))))) base sz)) (q_X6_leave dC dI cI cZ cS aF aN aT aL aO aH ah aP aX (f6_leave S R Y G Z p1 p2 p3) (va_A (wFm aF aN aT aL aO aH aP aX ++ (wSt cI aN S ++ (wSt cI aT R ++ (wLo cI aL Y ++ (wHi cS aH ah G ++ (wZs cI ah Z)))))) sz)) (x_X6_leave dC dI cI cZ cS aF aN aT aL aO aH ah aP aX (f6_leave S R Y G Z p1 p2 p3) (va_A (wFm aF aN aT aL aO aH aP aX ++ (wSt cI aN S ++ (wSt cI aT R ++ (wLo cI aL Y ++ (wHi cS aH ah G ++ (wZs cI ah Z)))))) sz)) 1 6 (va_A (wFm aF aN aT aL aO aH aP aX ++ (wSt cI aN S ++ (wSt cI aT R ++ (wLo cI aL Y ++ (wHi cS aH ah G ++ (wZs cI ah Z)))))) sz) := by
  refine vx_ofW (cc := cX6_leave) (maxL := 5) (ret := (some .int)) (by decide) rfl ?_
  intro p e s m args below meth c s₁ B hml htab hv
  obtain ⟨rfl, hsz, hP, hK, hD0, hN, hbs, hXW⟩ := hv
  have hx := B.exec
  have hb := B.bytes
  have hr := B.returns
  have hts := atoms_spec (ws := wsX6_leave) B.pre
  have hown : s.vm.findClass RX6 = some m.cls := findClass_of_methodNamed B.named
  have hlocks := B.notSynchronized
  subst hsz
  have hD := hD0.self (sz := s.heap.size)
  generalize hAe : va_A (wFm aF aN aT aL aO aH aP aX ++ (wSt cI aN S ++ (wSt cI aT R ++ (wLo cI aL Y ++ (wHi cS aH ah G ++ (wZs cI ah Z)))))) s.heap.size = A at hD ⊢
  have hA : ∀ q : Nat, s.heap.size ≤ q → A q := fun q h => by rw [← hAe]; exact Or.inr h
  have hS : va_S A s.heap s.heap [] := va_S.rf
  have hAb : ∀ q, A q → base ≤ q := fun q h => by rw [← hAe] at h; exact base_of hD0 hbs q h
  have hU := hXW.2.1.narrow hAb
  have hNs := hXW.2.2.1.narrow hAb
  have hP : va_P (dC, dI) vwCl (wFm aF aN aT aL aO aH aP aX ++ (wSt cI aN S ++ (wSt cI aT R ++ (wLo cI aL Y ++ (wHi cS aH ah G ++ (wZs cI ah Z)))))) s.heap := hP
  generalize hR : f6_leave S R Y G Z p1 p2 p3 = res
  rw [f6_leave] at hR
  have hin6 : ∀ w ∈ wsX60, w ∈ wsX6_leave := by decide +kernel
  have hin5 : ∀ w ∈ wsX50, w ∈ wsX6_leave := by decide +kernel
  have hl := lv_entry ([.ref (aF 0), .int p1, .int p2, .int p3]) (n := 5) (Nat.le_of_ble_eq_true rfl)
  rw [lg_entry_eq]
  generalize (lg_sl ([.ref (aF 0), .int p1, .int p2, .int p3]) ++ List.replicate (5 - (lg_sl ([.ref (aF 0), .int p1, .int p2, .int p3])).length) Slot.unset).toArray = ls at hl ⊢
  have hl : lv_has ls 5 [(0, .ref (aF 0)), (1, .int p1), (2, .int p2), (3, .int p3)] := hl
  refine lv_aload_n hx hb dX6_leave_0 rfl (lv_at hl 0 rfl) ?_
  refine va_get (D := (dC, dI)) (ci := 6) (v := .ref (aN 0)) (C := RX6) (T := TX6) (N := 7) hx hb hts hin6 hown hK hP 0 rfl rfl 0 (by decide) (hw_ hts 7 rfl) (fun _ h9 => h9) rfl dX6_leave_1 ?_
  refine lv_iload_n hx hb dX6_leave_4 rfl (lv_at hl 1 rfl) ?_
  refine va_calli (va_runV (As := [.int p1]) (rest := []) ⟨hx, hb, hml, hown, hts⟩ (met_X5_hasDish l dC dI cI cZ cS aN S s.heap.size p1) (cwV 1 hts gX6_leave_X5_hasDish rfl rfl rfl (by decide +kernel) ⟨Nat.le_of_ble_eq_true rfl, Nat.le_of_ble_eq_true rfl⟩) (pV (wc := wSt cI aN S) (ci := 5) (q0 := 1) hK hP hD hN [1, 2, 3, 4, 5, 6, 7, 8, 9, 10, 11] rfl (by decide) rfl rfl) rfl rfl hl.1 rfl (lv_room (Nat.le_of_ble_eq_true rfl)) dX6_leave_5 ⟨Nat.zero_le _, Nat.zero_le _⟩) hS (fun q _ h => a0_in hS hA q h) (a0_in hS hA) (fun r1 u t H1 locs ht hvm hw hB hz1 hk1 hS => ?_)
  obtain ⟨hw, nb2⟩ := hw
  subst hw
  have hP := rdk hP hk1
  refine lv_if_eq (tgt := 27) hx hb dX6_leave_8 (by decide) (fun c_3 => ?_) (fun c_3 => ?_)
  · rw [if_pos c_3] at hR
    obtain ⟨sa, hsa⟩ := hXW.1 90 (by decide)
    exact vx_throwS (text := strT 90) (sa := sa) (A := A) (names := ["java/lang/RuntimeException", "java/lang/Exception"]) (cls := "java/lang/IndexOutOfBoundsException") hx hb hfl hown (by decide) (by decide) (hw_ hts 1 rfl) (hw_ hts 2 rfl) hsa (thr_at1 hXW (fun w h => hts w (List.mem_cons_of_mem _ (List.mem_append_left _ (List.mem_append_left _ (List.mem_append_right _ h)))))) (by decide +kernel) hU hNs hS (hl.1.trans hml.symm) dX6_leave_27 dX6_leave_30 dX6_leave_31 dX6_leave_33 dX6_leave_36 (fun x hx => (htab x hx).elim) (Nat.lt_of_sub_pos (Nat.le_of_ble_eq_true rfl)) (Nat.le_of_ble_eq_true rfl) (Nat.le_of_ble_eq_true rfl) (Nat.le_of_ble_eq_true rfl) hlocks (fun t h1 h2 h3 => ⟨(S, R, Y, G, Z), trivial, ⟨(1 : Int32), rfl, by decide, hR, thr_P hP h3⟩, thr_F hS h2 h3⟩) hS.2.2 (Nat.le_of_ble_eq_true rfl) (Nat.le_of_ble_eq_true rfl)
  · rw [if_neg c_3] at hR
    refine lv_iload_n hx hb dX6_leave_11 rfl (lv_at hl 2 rfl) ?_
    refine lv_iconst (v := (-1 : Int32)) hx hb dX6_leave_12 (by decide) ?_
    refine lv_icmp_eq (tgt := 37) hx hb dX6_leave_13 (by decide) (fun c_4 => ?_) (fun c_4 => ?_)
    · rw [if_pos c_4] at hR
      refine lv_iload_n hx hb dX6_leave_37 rfl (lv_at hl 1 rfl) ?_
      refine lv_iload_n hx hb dX6_leave_38 rfl (lv_at hl 2 rfl) ?_
      refine lv_icmp_eq (tgt := 57) hx hb dX6_leave_39 (by decide) (fun c_5 => ?_) (fun c_5 => ?_)
      · rw [if_pos c_5] at hR
        obtain ⟨sa, hsa⟩ := hXW.1 93 (by decide)
        exact vx_throwS (text := strT 93) (sa := sa) (A := A) (names := ["java/lang/RuntimeException", "java/lang/Exception"]) (cls := "java/lang/IllegalArgumentException") hx hb hfl hown (by decide) (by decide) (hw_ hts 3 rfl) (hw_ hts 4 rfl) hsa (thr_at2 hXW (fun w h => hts w (List.mem_cons_of_mem _ (List.mem_append_left _ (List.mem_append_right _ h))))) (by decide +kernel) hU hNs hS (hl.1.trans hml.symm) dX6_leave_57 dX6_leave_60 dX6_leave_61 dX6_leave_63 dX6_leave_66 (fun x hx => (htab x hx).elim) (Nat.lt_of_sub_pos (Nat.le_of_ble_eq_true rfl)) (Nat.le_of_ble_eq_true rfl) (Nat.le_of_ble_eq_true rfl) (Nat.le_of_ble_eq_true rfl) hlocks (fun t h1 h2 h3 => ⟨(S, R, Y, G, Z), trivial, ⟨(2 : Int32), rfl, by decide, hR, thr_P hP h3⟩, thr_F hS h2 h3⟩) hS.2.2 (Nat.le_of_ble_eq_true rfl) (Nat.le_of_ble_eq_true rfl)
      · rw [if_neg c_5] at hR
        refine lv_iload_n hx hb dX6_leave_42 rfl (lv_at hl 2 rfl) ?_
        refine lv_iconst (v := (-1 : Int32)) hx hb dX6_leave_43 (by decide) ?_
        refine lv_icmp_eq (tgt := 67) hx hb dX6_leave_44 (by decide) (fun _ => ?_) (fun q => absurd c_4 q)
        refine lv_aload_n hx hb dX6_leave_67 rfl (lv_at hl 0 rfl) ?_
        refine va_get (D := (dC, dI)) (ci := 6) (v := .ref (aT 0)) (C := RX6) (T := TX6) (N := 7) hx hb hts hin6 hown hK hP 0 rfl rfl 1 (by decide) (hw_ hts 8 rfl) (fun _ h9 => h9) rfl dX6_leave_68 ?_
        refine lv_aload_n hx hb dX6_leave_71 rfl (lv_at hl 0 rfl) ?_
        refine va_get (D := (dC, dI)) (ci := 6) (v := .ref (aN 0)) (C := RX6) (T := TX6) (N := 7) hx hb hts hin6 hown hK hP 0 rfl rfl 0 (by decide) (hw_ hts 7 rfl) (fun _ h9 => h9) rfl dX6_leave_72 ?_
        have hF := va_free (wc := wSt cI aT R ++ (wSt cI aN S)) hD hS hA [12, 13, 14, 15, 16, 17, 18, 19, 20, 21, 22, 1, 2, 3, 4, 5, 6, 7, 8, 9, 10, 11] rfl
        refine va_callv (va_runV (As := [.ref (aN 0)]) (rest := []) ⟨hx, hb, hml, hown, hts⟩ (met_X5_copyFrom l dC dI cI cZ cS aT aN R S H1.size) (cwV 1 hts gX6_leave_X5_copyFrom rfl rfl rfl (by decide +kernel) ⟨Nat.le_of_ble_eq_true rfl, Nat.le_of_ble_eq_true rfl⟩) (pV (wc := wSt cI aT R ++ (wSt cI aN S)) (ci := 5) (q0 := 12) hK hP hD hN [12, 13, 14, 15, 16, 17, 18, 19, 20, 21, 22, 1, 2, 3, 4, 5, 6, 7, 8, 9, 10, 11] rfl (by decide) rfl rfl) rfl rfl hl.1 rfl (lv_room (Nat.le_of_ble_eq_true rfl)) dX6_leave_75 ⟨Nat.zero_le _, Nat.zero_le _⟩) hS (fun q _ h => hF q h) hF (fun  u6 t H2 locs ht hvm hw hB hz1 hk1 hS => ?_)
        try dsimp only at hw hB
        rw [ht] at hB
        have hR := bd_n hw hR
        have hP := wrk2 (w2 := wFm aF aN aT aL aO aH aP aX ++ (wSt cI aN S ++ (wSt cI aT u6 ++ (wLo cI aL Y ++ (wHi cS aH ah G ++ (wZs cI ah Z)))))) (wr := wFm aF aN aT aL aO aH aP aX ++ (wLo cI aL Y ++ (wHi cS aH ah G ++ (wZs cI ah Z)))) hP hD [12, 13, 14, 15, 16, 17, 18, 19, 20, 21, 22, 1, 2, 3, 4, 5, 6, 7, 8, 9, 10, 11] [0, 23, 24, 25, 26, 27, 28, 29, 30, 31, 32, 33, 34, 35, 36, 37, 38, 39, 40, 41, 42, 43, 44, 45, 46, 47, 48, 49, 50, 51, 52, 53, 54, 55, 56, 57, 58, 59, 60, 61, 62, 63, 64, 65, 66, 67, 68, 69, 70, 71, 72, 73, 74, 75, 76, 77, 78, 79, 80, 81, 82, 83, 84, 85, 86, 87, 88, 89, 90, 91, 92, 93] rfl rfl (by decide) hk1 hB [0, 83, 84, 85, 86, 87, 88, 89, 90, 91, 92, 93, 72, 73, 74, 75, 76, 77, 78, 79, 80, 81, 82, 1, 2, 3, 4, 5, 6, 7, 8, 9, 10, 11, 12, 13, 14, 15, 16, 17, 18, 19, 20, 21, 22, 23, 24, 25, 26, 27, 28, 29, 30, 31, 32, 33, 34, 35, 36, 37, 38, 39, 40, 41, 42, 43, 44, 45, 46, 47, 48, 49, 50, 51, 52, 53, 54, 55, 56, 57, 58, 59, 60, 61, 62, 63, 64, 65, 66, 67, 68, 69, 70, 71] rfl
        have hD := D_addr (w1 := wFm aF aN aT aL aO aH aP aX ++ (wSt cI aN S ++ (wSt cI aT u6 ++ (wLo cI aL Y ++ (wHi cS aH ah G ++ (wZs cI ah Z)))))) hD rfl
        refine lv_aload_n hx hb dX6_leave_78 rfl (lv_at hl 0 rfl) ?_
        refine va_get (D := (dC, dI)) (ci := 6) (v := .ref (aT 0)) (C := RX6) (T := TX6) (N := 7) hx hb hts hin6 hown hK hP 0 rfl rfl 1 (by decide) (hw_ hts 8 rfl) (fun _ h9 => h9) rfl dX6_leave_79 ?_
        refine va_get (D := (dC, dI)) (ci := 5) (v := .ref (aT 5)) (C := RX5) (T := TX5) (N := 12) hx hb hts hin5 hown hK hP 12 rfl rfl 5 (by decide) (hw_ hts 9 rfl) (fun _ h9 => h9) rfl dX6_leave_82 ?_
        refine lv_iload_n hx hb dX6_leave_85 rfl (lv_at hl 1 rfl) ?_
        refine lv_iload_n hx hb dX6_leave_86 rfl (lv_at hl 2 rfl) ?_
        have hF := va_free (wc := [((aT 5), .inl (cI, 12, .inl (u6 5)))]) hD hS hA [17] rfl
        refine va_callv (va_runS (As := [.ref (aT 5), .int p1, .int p2]) (rest := []) ⟨hx, hb, hml, hown, hts⟩ (met_X6_put l dC dI cI cZ cS (aT 5) 12 (by decide) (u6 5) H2.size p1 p2) (va_cwS 3 hts gX6_leave_X6_put rfl rfl rfl (by decide +kernel) ⟨Nat.le_of_ble_eq_true rfl, Nat.le_of_ble_eq_true rfl⟩) (pS (wc := [((aT 5), .inl (cI, 12, .inl (u6 5)))]) hK hP hD hN [17] rfl (by decide)) rfl rfl hl.1 rfl (lv_room (Nat.le_of_ble_eq_true rfl)) dX6_leave_87 ⟨Nat.zero_le _, Nat.zero_le _⟩) hS (fun q _ h => hF q h) hF (fun  u7 t H3 locs ht hvm hw hB hz1 hk1 hS => ?_)
        try dsimp only at hw hB
        rw [ht] at hB
        subst hw
        have hP := wrk (w2 := wFm aF aN aT aL aO aH aP aX ++ (wSt cI aN S ++ (wSt cI aT (pset u6 5 (f6_put 12 (u6 5) p1 p2)) ++ (wLo cI aL Y ++ (wHi cS aH ah G ++ (wZs cI ah Z)))))) hP hD [17] rfl (by decide) hk1 hB rfl rfl
        have hD := D_addr (w1 := wFm aF aN aT aL aO aH aP aX ++ (wSt cI aN S ++ (wSt cI aT (pset u6 5 (f6_put 12 (u6 5) p1 p2)) ++ (wLo cI aL Y ++ (wHi cS aH ah G ++ (wZs cI ah Z)))))) hD rfl
        obtain ⟨Rb8, hRb8⟩ : ∃ z : Pic, z = (pset u6 5 (f6_put 12 (u6 5) p1 p2)) := ⟨_, rfl⟩
        rw [← hRb8] at hP hD
        have hR := bd_n hRb8 hR
        refine lv_aload_n hx hb dX6_leave_90 rfl (lv_at hl 0 rfl) ?_
        refine va_get (D := (dC, dI)) (ci := 6) (v := .ref (aT 0)) (C := RX6) (T := TX6) (N := 7) hx hb hts hin6 hown hK hP 0 rfl rfl 1 (by decide) (hw_ hts 8 rfl) (fun _ h9 => h9) rfl dX6_leave_91 ?_
        refine va_get (D := (dC, dI)) (ci := 5) (v := .ref (aT 6)) (C := RX5) (T := TX5) (N := 12) hx hb hts hin5 hown hK hP 12 rfl rfl 6 (by decide) (hw_ hts 10 rfl) (fun _ h9 => h9) rfl dX6_leave_94 ?_
        refine lv_iload_n hx hb dX6_leave_97 rfl (lv_at hl 1 rfl) ?_
        refine lv_iload_n hx hb dX6_leave_98 rfl (lv_at hl 2 rfl) ?_
        refine lv_iconst (v := (-1 : Int32)) hx hb dX6_leave_99 (by decide) ?_
        refine lv_icmp_ne (tgt := 107) hx hb dX6_leave_100 (by decide) (fun q => absurd c_4 q) (fun _ => ?_)
        refine lv_iconst (v := (0 : Int32)) hx hb dX6_leave_103 (by decide) ?_
        refine lv_goto (tgt := 108) hx hb dX6_leave_104 (by decide) ?_
        have hF := va_free (wc := [((aT 6), .inl (cI, 12, .inl (Rb8 6)))]) hD hS hA [18] rfl
        refine va_callv (va_runS (As := [.ref (aT 6), .int p1, .int (0 : Int32)]) (rest := []) ⟨hx, hb, hml, hown, hts⟩ (met_X6_put l dC dI cI cZ cS (aT 6) 12 (by decide) (Rb8 6) H3.size p1 (0 : Int32)) (va_cwS 3 hts gX6_leave_X6_put rfl rfl rfl (by decide +kernel) ⟨Nat.le_of_ble_eq_true rfl, Nat.le_of_ble_eq_true rfl⟩) (pS (wc := [((aT 6), .inl (cI, 12, .inl (Rb8 6)))]) hK hP hD hN [18] rfl (by decide)) rfl rfl hl.1 rfl (lv_room (Nat.le_of_ble_eq_true rfl)) dX6_leave_108 ⟨Nat.zero_le _, Nat.zero_le _⟩) hS (fun q _ h => hF q h) hF (fun  u9 t H4 locs ht hvm hw hB hz1 hk1 hS => ?_)
        try dsimp only at hw hB
        rw [ht] at hB
        subst hw
        have hP := wrk (w2 := wFm aF aN aT aL aO aH aP aX ++ (wSt cI aN S ++ (wSt cI aT (pset Rb8 6 (f6_put 12 (Rb8 6) p1 (0 : Int32))) ++ (wLo cI aL Y ++ (wHi cS aH ah G ++ (wZs cI ah Z)))))) hP hD [18] rfl (by decide) hk1 hB rfl rfl
        have hD := D_addr (w1 := wFm aF aN aT aL aO aH aP aX ++ (wSt cI aN S ++ (wSt cI aT (pset Rb8 6 (f6_put 12 (Rb8 6) p1 (0 : Int32))) ++ (wLo cI aL Y ++ (wHi cS aH ah G ++ (wZs cI ah Z)))))) hD rfl
        obtain ⟨Rb10, hRb10⟩ : ∃ z : Pic, z = (pset Rb8 6 (f6_put 12 (Rb8 6) p1 (0 : Int32))) := ⟨_, rfl⟩
        rw [← hRb10] at hP hD
        have hR := bd_n hRb10 hR
        refine lv_aload_n hx hb dX6_leave_111 rfl (lv_at hl 0 rfl) ?_
        refine va_get (D := (dC, dI)) (ci := 6) (v := .ref (aL 0)) (C := RX6) (T := TX6) (N := 7) hx hb hts hin6 hown hK hP 0 rfl rfl 2 (by decide) (hw_ hts 11 rfl) (fun _ h9 => h9) rfl dX6_leave_112 ?_
        refine lv_aload_n hx hb dX6_leave_115 rfl (lv_at hl 0 rfl) ?_
        refine va_get (D := (dC, dI)) (ci := 6) (v := .ref (aT 0)) (C := RX6) (T := TX6) (N := 7) hx hb hts hin6 hown hK hP 0 rfl rfl 1 (by decide) (hw_ hts 8 rfl) (fun _ h9 => h9) rfl dX6_leave_116 ?_
        have hF := va_free (wc := wLo cI aL Y ++ (wSt cI aT Rb10)) hD hS hA [23, 24, 25, 12, 13, 14, 15, 16, 17, 18, 19, 20, 21, 22] rfl
        refine va_calli (va_runV (As := [.ref (aT 0)]) (rest := []) ⟨hx, hb, hml, hown, hts⟩ (met_X1_areSound l dC dI cI cZ cS aL aT Y Rb10 H4.size) (cwV 1 hts gX6_leave_X1_areSound rfl rfl rfl (by decide +kernel) ⟨Nat.le_of_ble_eq_true rfl, Nat.le_of_ble_eq_true rfl⟩) (pV (wc := wLo cI aL Y ++ (wSt cI aT Rb10)) (ci := 1) (q0 := 23) hK hP hD hN [23, 24, 25, 12, 13, 14, 15, 16, 17, 18, 19, 20, 21, 22] rfl (by decide) rfl rfl) rfl rfl hl.1 rfl (lv_room (Nat.le_of_ble_eq_true rfl)) dX6_leave_119 ⟨Nat.zero_le _, Nat.zero_le _⟩) hS (fun q _ h => hF q h) hF (fun r11 u12 t H5 locs ht hvm hw hB hz1 hk1 hS => ?_)
        obtain ⟨hw, nb13⟩ := hw
        try dsimp only at hw hB
        rw [ht] at hB
        have hR := bd2_n hw hR
        have hP := wrk2 (w2 := wFm aF aN aT aL aO aH aP aX ++ (wSt cI aN S ++ (wSt cI aT Rb10 ++ (wLo cI aL u12 ++ (wHi cS aH ah G ++ (wZs cI ah Z)))))) (wr := wFm aF aN aT aL aO aH aP aX ++ (wSt cI aN S ++ (wHi cS aH ah G ++ (wZs cI ah Z)))) hP hD [23, 24, 25, 12, 13, 14, 15, 16, 17, 18, 19, 20, 21, 22] [0, 1, 2, 3, 4, 5, 6, 7, 8, 9, 10, 11, 26, 27, 28, 29, 30, 31, 32, 33, 34, 35, 36, 37, 38, 39, 40, 41, 42, 43, 44, 45, 46, 47, 48, 49, 50, 51, 52, 53, 54, 55, 56, 57, 58, 59, 60, 61, 62, 63, 64, 65, 66, 67, 68, 69, 70, 71, 72, 73, 74, 75, 76, 77, 78, 79, 80, 81, 82, 83, 84, 85, 86, 87, 88, 89, 90, 91, 92, 93] rfl rfl (by decide) hk1 hB [0, 1, 2, 3, 4, 5, 6, 7, 8, 9, 10, 11, 83, 84, 85, 86, 87, 88, 89, 90, 91, 92, 93, 80, 81, 82, 12, 13, 14, 15, 16, 17, 18, 19, 20, 21, 22, 23, 24, 25, 26, 27, 28, 29, 30, 31, 32, 33, 34, 35, 36, 37, 38, 39, 40, 41, 42, 43, 44, 45, 46, 47, 48, 49, 50, 51, 52, 53, 54, 55, 56, 57, 58, 59, 60, 61, 62, 63, 64, 65, 66, 67, 68, 69, 70, 71, 72, 73, 74, 75, 76, 77, 78, 79] rfl
        have hD := D_addr (w1 := wFm aF aN aT aL aO aH aP aX ++ (wSt cI aN S ++ (wSt cI aT Rb10 ++ (wLo cI aL u12 ++ (wHi cS aH ah G ++ (wZs cI ah Z)))))) hD rfl
        refine lv_if_ne (tgt := 135) hx hb dX6_leave_122 (by decide) (fun c_14 => ?_) (fun c_14 => ?_)
        · rw [if_neg c_14] at hR
          refine lv_aload_n hx hb dX6_leave_135 rfl (lv_at hl 0 rfl) ?_
          refine va_get (D := (dC, dI)) (ci := 6) (v := .ref (aN 0)) (C := RX6) (T := TX6) (N := 7) hx hb hts hin6 hown hK hP 0 rfl rfl 0 (by decide) (hw_ hts 7 rfl) (fun _ h9 => h9) rfl dX6_leave_136 ?_
          refine va_get (D := (dC, dI)) (ci := 5) (v := .ref (aN 5)) (C := RX5) (T := TX5) (N := 12) hx hb hts hin5 hown hK hP 1 rfl rfl 5 (by decide) (hw_ hts 9 rfl) (fun _ h9 => h9) rfl dX6_leave_139 ?_
          refine lv_iload_n hx hb dX6_leave_142 rfl (lv_at hl 1 rfl) ?_
          refine va_calli (va_runS (As := [.ref (aN 5), .int p1]) (rest := []) ⟨hx, hb, hml, hown, hts⟩ (met_X6_at l dC dI cI cZ cS (aN 5) 12 (by decide) (S 5) H5.size p1) (va_cwS 2 hts gX6_leave_X6_at rfl rfl rfl (by decide +kernel) ⟨Nat.le_of_ble_eq_true rfl, Nat.le_of_ble_eq_true rfl⟩) (pS (wc := [((aN 5), .inl (cI, 12, .inl (S 5)))]) hK hP hD hN [6] rfl (by decide)) rfl rfl hl.1 rfl (lv_room (Nat.le_of_ble_eq_true rfl)) dX6_leave_143 ⟨Nat.zero_le _, Nat.zero_le _⟩) hS (fun q _ h => a0_in hS hA q h) (a0_in hS hA) (fun r15 u t H6 locs ht hvm hw hB hz1 hk1 hS => ?_)
          subst hw
          have hP := rdk hP hk1
          refine lv_topi (fun v16 hv16 => ?_)
          have hR := bd_n hv16 hR
          refine lv_istore (lv' := [(4, .int v16), (0, .ref (aF 0)), (1, .int p1), (2, .int p2), (3, .int p3)]) hx hb dX6_leave_146 hl (by decide) rfl (fun ls hl => ?_)
          refine lv_aload_n hx hb dX6_leave_148 rfl (lv_at hl 1 rfl) ?_
          have hF := va_free (wc := wFm aF aN aT aL aO aH aP aX ++ (wSt cI aN S ++ (wSt cI aT Rb10 ++ (wHi cS aH ah G ++ (wZs cI ah Z))))) hD hS hA [0, 1, 2, 3, 4, 5, 6, 7, 8, 9, 10, 11, 12, 13, 14, 15, 16, 17, 18, 19, 20, 21, 22, 26, 27, 28, 29, 30, 31, 32, 33, 34, 35, 36, 37, 38, 39, 40, 41, 42, 43, 44, 45, 46, 47, 48, 49, 50, 51, 52, 53, 54, 55, 56, 57, 58, 59, 60, 61, 62, 63, 64, 65, 66, 67, 68, 69, 70, 71, 72, 73, 74, 75, 76, 77, 78, 79, 80, 81, 82, 83, 84, 85, 86, 87, 88, 89, 90, 91, 92, 93] rfl
          refine va_callv (va_runV (As := []) (rest := []) ⟨hx, hb, hml, hown, hts⟩ (met_X6_takeOverTrial l dC dI cI cZ cS aF aN aT aL aO aH ah aP aX S Rb10 G Z H6.size) (cwV 0 hts gX6_leave_X6_takeOverTrial rfl rfl rfl (by decide +kernel) ⟨Nat.le_of_ble_eq_true rfl, Nat.le_of_ble_eq_true rfl⟩) (pV (wc := wFm aF aN aT aL aO aH aP aX ++ (wSt cI aN S ++ (wSt cI aT Rb10 ++ (wHi cS aH ah G ++ (wZs cI ah Z))))) (ci := 6) (q0 := 0) hK hP hD hN [0, 1, 2, 3, 4, 5, 6, 7, 8, 9, 10, 11, 12, 13, 14, 15, 16, 17, 18, 19, 20, 21, 22, 26, 27, 28, 29, 30, 31, 32, 33, 34, 35, 36, 37, 38, 39, 40, 41, 42, 43, 44, 45, 46, 47, 48, 49, 50, 51, 52, 53, 54, 55, 56, 57, 58, 59, 60, 61, 62, 63, 64, 65, 66, 67, 68, 69, 70, 71, 72, 73, 74, 75, 76, 77, 78, 79, 80, 81, 82, 83, 84, 85, 86, 87, 88, 89, 90, 91, 92, 93] rfl (by decide) rfl rfl) rfl rfl hl.1 rfl (lv_room (Nat.le_of_ble_eq_true rfl)) dX6_leave_149 ⟨Nat.zero_le _, Nat.zero_le _⟩) hS (fun q _ h => hF q h) hF (fun  u t H7 locs ht hvm hw hB hz1 hk1 hS => ?_)
          obtain ⟨u17, u18, u19⟩ := u
          try dsimp only at hw hB
          rw [ht] at hB
          have hR := bd3_n hw hR
          have hP := wrk2 (w2 := wFm aF aN aT aL aO aH aP aX ++ (wSt cI aN u17 ++ (wSt cI aT Rb10 ++ (wLo cI aL u12 ++ (wHi cS aH ah u18 ++ (wZs cI ah u19)))))) (wr := wLo cI aL u12) hP hD [0, 1, 2, 3, 4, 5, 6, 7, 8, 9, 10, 11, 12, 13, 14, 15, 16, 17, 18, 19, 20, 21, 22, 26, 27, 28, 29, 30, 31, 32, 33, 34, 35, 36, 37, 38, 39, 40, 41, 42, 43, 44, 45, 46, 47, 48, 49, 50, 51, 52, 53, 54, 55, 56, 57, 58, 59, 60, 61, 62, 63, 64, 65, 66, 67, 68, 69, 70, 71, 72, 73, 74, 75, 76, 77, 78, 79, 80, 81, 82, 83, 84, 85, 86, 87, 88, 89, 90, 91, 92, 93] [23, 24, 25] rfl rfl (by decide) hk1 hB [3, 4, 5, 6, 7, 8, 9, 10, 11, 12, 13, 14, 15, 16, 17, 18, 19, 20, 21, 22, 23, 24, 25, 0, 1, 2, 26, 27, 28, 29, 30, 31, 32, 33, 34, 35, 36, 37, 38, 39, 40, 41, 42, 43, 44, 45, 46, 47, 48, 49, 50, 51, 52, 53, 54, 55, 56, 57, 58, 59, 60, 61, 62, 63, 64, 65, 66, 67, 68, 69, 70, 71, 72, 73, 74, 75, 76, 77, 78, 79, 80, 81, 82, 83, 84, 85, 86, 87, 88, 89, 90, 91, 92, 93] rfl
          have hD := D_addr (w1 := wFm aF aN aT aL aO aH aP aX ++ (wSt cI aN u17 ++ (wSt cI aT Rb10 ++ (wLo cI aL u12 ++ (wHi cS aH ah u18 ++ (wZs cI ah u19)))))) hD rfl
          refine lv_iload hx hb dX6_leave_152 (lv_at hl 0 rfl) ?_
          exact vx_ret (W.widen (k := 1) (n := 6) (Nat.zero_le _) (Nat.zero_le _) (W.iret (v := v16) hx hb hr (fun t ht hW => ⟨⟨v16, (u17, Rb10, u12, u18, u19), rfl, hR, P_at ht hP⟩, hS.F ht⟩) hS.2.2 dX6_leave_154))
        · rw [if_pos c_14] at hR
          obtain ⟨sa, hsa⟩ := hXW.1 113 (by decide)
          exact vx_throwS (text := strT 113) (sa := sa) (A := A) (names := ["java/lang/RuntimeException", "java/lang/Exception"]) (cls := "java/lang/IllegalStateException") hx hb hfl hown (by decide) (by decide) (hw_ hts 5 rfl) (hw_ hts 6 rfl) hsa (thr_at3 hXW (fun w h => hts w (List.mem_cons_of_mem _ (List.mem_append_right _ h)))) (by decide +kernel) hU hNs hS (hl.1.trans hml.symm) dX6_leave_125 dX6_leave_128 dX6_leave_129 dX6_leave_131 dX6_leave_134 (fun x hx => (htab x hx).elim) (Nat.lt_of_sub_pos (Nat.le_of_ble_eq_true rfl)) (Nat.le_of_ble_eq_true rfl) (Nat.le_of_ble_eq_true rfl) (Nat.le_of_ble_eq_true rfl) hlocks (fun t h1 h2 h3 => ⟨(S, Rb10, u12, G, Z), trivial, ⟨(3 : Int32), rfl, by decide, hR, thr_P hP h3⟩, thr_F hS h2 h3⟩) hS.2.2 (Nat.le_of_ble_eq_true rfl) (Nat.le_of_ble_eq_true rfl)
    · rw [if_neg c_4] at hR
      refine lv_aload_n hx hb dX6_leave_16 rfl (lv_at hl 0 rfl) ?_
      refine va_get (D := (dC, dI)) (ci := 6) (v := .ref (aN 0)) (C := RX6) (T := TX6) (N := 7) hx hb hts hin6 hown hK hP 0 rfl rfl 0 (by decide) (hw_ hts 7 rfl) (fun _ h9 => h9) rfl dX6_leave_17 ?_
      refine lv_iload_n hx hb dX6_leave_20 rfl (lv_at hl 2 rfl) ?_
      refine va_calli (va_runV (As := [.int p2]) (rest := []) ⟨hx, hb, hml, hown, hts⟩ (met_X5_hasDish l dC dI cI cZ cS aN S H1.size p2) (cwV 1 hts gX6_leave_X5_hasDish rfl rfl rfl (by decide +kernel) ⟨Nat.le_of_ble_eq_true rfl, Nat.le_of_ble_eq_true rfl⟩) (pV (wc := wSt cI aN S) (ci := 5) (q0 := 1) hK hP hD hN [1, 2, 3, 4, 5, 6, 7, 8, 9, 10, 11] rfl (by decide) rfl rfl) rfl rfl hl.1 rfl (lv_room (Nat.le_of_ble_eq_true rfl)) dX6_leave_21 ⟨Nat.zero_le _, Nat.zero_le _⟩) hS (fun q _ h => a0_in hS hA q h) (a0_in hS hA) (fun r20 u t H2 locs ht hvm hw hB hz1 hk1 hS => ?_)
      obtain ⟨hw, nb21⟩ := hw
      subst hw
      have hP := rdk hP hk1
      refine lv_if_ne (tgt := 37) hx hb dX6_leave_24 (by decide) (fun c_22 => ?_) (fun c_22 => ?_)
      · rw [if_neg c_22] at hR
        refine lv_iload_n hx hb dX6_leave_37 rfl (lv_at hl 1 rfl) ?_
        refine lv_iload_n hx hb dX6_leave_38 rfl (lv_at hl 2 rfl) ?_
        refine lv_icmp_eq (tgt := 57) hx hb dX6_leave_39 (by decide) (fun c_23 => ?_) (fun c_23 => ?_)
        · rw [if_pos c_23] at hR
          obtain ⟨sa, hsa⟩ := hXW.1 93 (by decide)
          exact vx_throwS (text := strT 93) (sa := sa) (A := A) (names := ["java/lang/RuntimeException", "java/lang/Exception"]) (cls := "java/lang/IllegalArgumentException") hx hb hfl hown (by decide) (by decide) (hw_ hts 3 rfl) (hw_ hts 4 rfl) hsa (thr_at2 hXW (fun w h => hts w (List.mem_cons_of_mem _ (List.mem_append_left _ (List.mem_append_right _ h))))) (by decide +kernel) hU hNs hS (hl.1.trans hml.symm) dX6_leave_57 dX6_leave_60 dX6_leave_61 dX6_leave_63 dX6_leave_66 (fun x hx => (htab x hx).elim) (Nat.lt_of_sub_pos (Nat.le_of_ble_eq_true rfl)) (Nat.le_of_ble_eq_true rfl) (Nat.le_of_ble_eq_true rfl) (Nat.le_of_ble_eq_true rfl) hlocks (fun t h1 h2 h3 => ⟨(S, R, Y, G, Z), trivial, ⟨(2 : Int32), rfl, by decide, hR, thr_P hP h3⟩, thr_F hS h2 h3⟩) hS.2.2 (Nat.le_of_ble_eq_true rfl) (Nat.le_of_ble_eq_true rfl)
        · rw [if_neg c_23] at hR
          refine lv_iload_n hx hb dX6_leave_42 rfl (lv_at hl 2 rfl) ?_
          refine lv_iconst (v := (-1 : Int32)) hx hb dX6_leave_43 (by decide) ?_
          refine lv_icmp_eq (tgt := 67) hx hb dX6_leave_44 (by decide) (fun q => absurd q c_4) (fun _ => ?_)
          refine lv_iload_n hx hb dX6_leave_47 rfl (lv_at hl 3 rfl) ?_
          refine lv_iconst (v := (1 : Int32)) hx hb dX6_leave_48 (by decide) ?_
          refine lv_bipush (v := (6 : Int32)) hx hb dX6_leave_49 (by decide) ?_
          refine va_calli (va_runS (As := [.int p3, .int (1 : Int32), .int (6 : Int32)]) (rest := []) ⟨hx, hb, hml, hown, hts⟩ (met_X6_isWithin l dC dI cI cZ cS H2.size p3 (1 : Int32) (6 : Int32)) (va_cwS 3 hts gX6_leave_X6_isWithin rfl rfl rfl (by decide +kernel) ⟨Nat.le_of_ble_eq_true rfl, Nat.le_of_ble_eq_true rfl⟩) (pS (wc := []) hK hP hD hN [] rfl (by decide)) rfl rfl hl.1 rfl (lv_room (Nat.le_of_ble_eq_true rfl)) dX6_leave_51 ⟨Nat.zero_le _, Nat.zero_le _⟩) hS (fun q _ h => a0_in hS hA q h) (a0_in hS hA) (fun r24 u t H3 locs ht hvm hw hB hz1 hk1 hS => ?_)
          obtain ⟨hw, nb25⟩ := hw
          subst hw
          have hP := rdk hP hk1
          refine lv_if_ne (tgt := 67) hx hb dX6_leave_54 (by decide) (fun c_26 => ?_) (fun c_26 => ?_)
          · rw [if_neg c_26] at hR
            refine lv_aload_n hx hb dX6_leave_67 rfl (lv_at hl 0 rfl) ?_
            refine va_get (D := (dC, dI)) (ci := 6) (v := .ref (aT 0)) (C := RX6) (T := TX6) (N := 7) hx hb hts hin6 hown hK hP 0 rfl rfl 1 (by decide) (hw_ hts 8 rfl) (fun _ h9 => h9) rfl dX6_leave_68 ?_
            refine lv_aload_n hx hb dX6_leave_71 rfl (lv_at hl 0 rfl) ?_
            refine va_get (D := (dC, dI)) (ci := 6) (v := .ref (aN 0)) (C := RX6) (T := TX6) (N := 7) hx hb hts hin6 hown hK hP 0 rfl rfl 0 (by decide) (hw_ hts 7 rfl) (fun _ h9 => h9) rfl dX6_leave_72 ?_
            have hF := va_free (wc := wSt cI aT R ++ (wSt cI aN S)) hD hS hA [12, 13, 14, 15, 16, 17, 18, 19, 20, 21, 22, 1, 2, 3, 4, 5, 6, 7, 8, 9, 10, 11] rfl
            refine va_callv (va_runV (As := [.ref (aN 0)]) (rest := []) ⟨hx, hb, hml, hown, hts⟩ (met_X5_copyFrom l dC dI cI cZ cS aT aN R S H3.size) (cwV 1 hts gX6_leave_X5_copyFrom rfl rfl rfl (by decide +kernel) ⟨Nat.le_of_ble_eq_true rfl, Nat.le_of_ble_eq_true rfl⟩) (pV (wc := wSt cI aT R ++ (wSt cI aN S)) (ci := 5) (q0 := 12) hK hP hD hN [12, 13, 14, 15, 16, 17, 18, 19, 20, 21, 22, 1, 2, 3, 4, 5, 6, 7, 8, 9, 10, 11] rfl (by decide) rfl rfl) rfl rfl hl.1 rfl (lv_room (Nat.le_of_ble_eq_true rfl)) dX6_leave_75 ⟨Nat.zero_le _, Nat.zero_le _⟩) hS (fun q _ h => hF q h) hF (fun  u27 t H4 locs ht hvm hw hB hz1 hk1 hS => ?_)
            try dsimp only at hw hB
            rw [ht] at hB
            have hR := bd_n hw hR
            have hP := wrk2 (w2 := wFm aF aN aT aL aO aH aP aX ++ (wSt cI aN S ++ (wSt cI aT u27 ++ (wLo cI aL Y ++ (wHi cS aH ah G ++ (wZs cI ah Z)))))) (wr := wFm aF aN aT aL aO aH aP aX ++ (wLo cI aL Y ++ (wHi cS aH ah G ++ (wZs cI ah Z)))) hP hD [12, 13, 14, 15, 16, 17, 18, 19, 20, 21, 22, 1, 2, 3, 4, 5, 6, 7, 8, 9, 10, 11] [0, 23, 24, 25, 26, 27, 28, 29, 30, 31, 32, 33, 34, 35, 36, 37, 38, 39, 40, 41, 42, 43, 44, 45, 46, 47, 48, 49, 50, 51, 52, 53, 54, 55, 56, 57, 58, 59, 60, 61, 62, 63, 64, 65, 66, 67, 68, 69, 70, 71, 72, 73, 74, 75, 76, 77, 78, 79, 80, 81, 82, 83, 84, 85, 86, 87, 88, 89, 90, 91, 92, 93] rfl rfl (by decide) hk1 hB [0, 83, 84, 85, 86, 87, 88, 89, 90, 91, 92, 93, 72, 73, 74, 75, 76, 77, 78, 79, 80, 81, 82, 1, 2, 3, 4, 5, 6, 7, 8, 9, 10, 11, 12, 13, 14, 15, 16, 17, 18, 19, 20, 21, 22, 23, 24, 25, 26, 27, 28, 29, 30, 31, 32, 33, 34, 35, 36, 37, 38, 39, 40, 41, 42, 43, 44, 45, 46, 47, 48, 49, 50, 51, 52, 53, 54, 55, 56, 57, 58, 59, 60, 61, 62, 63, 64, 65, 66, 67, 68, 69, 70, 71] rfl
            have hD := D_addr (w1 := wFm aF aN aT aL aO aH aP aX ++ (wSt cI aN S ++ (wSt cI aT u27 ++ (wLo cI aL Y ++ (wHi cS aH ah G ++ (wZs cI ah Z)))))) hD rfl
            refine lv_aload_n hx hb dX6_leave_78 rfl (lv_at hl 0 rfl) ?_
            refine va_get (D := (dC, dI)) (ci := 6) (v := .ref (aT 0)) (C := RX6) (T := TX6) (N := 7) hx hb hts hin6 hown hK hP 0 rfl rfl 1 (by decide) (hw_ hts 8 rfl) (fun _ h9 => h9) rfl dX6_leave_79 ?_
            refine va_get (D := (dC, dI)) (ci := 5) (v := .ref (aT 5)) (C := RX5) (T := TX5) (N := 12) hx hb hts hin5 hown hK hP 12 rfl rfl 5 (by decide) (hw_ hts 9 rfl) (fun _ h9 => h9) rfl dX6_leave_82 ?_
            refine lv_iload_n hx hb dX6_leave_85 rfl (lv_at hl 1 rfl) ?_
            refine lv_iload_n hx hb dX6_leave_86 rfl (lv_at hl 2 rfl) ?_
            have hF := va_free (wc := [((aT 5), .inl (cI, 12, .inl (u27 5)))]) hD hS hA [17] rfl
            refine va_callv (va_runS (As := [.ref (aT 5), .int p1, .int p2]) (rest := []) ⟨hx, hb, hml, hown, hts⟩ (met_X6_put l dC dI cI cZ cS (aT 5) 12 (by decide) (u27 5) H4.size p1 p2) (va_cwS 3 hts gX6_leave_X6_put rfl rfl rfl (by decide +kernel) ⟨Nat.le_of_ble_eq_true rfl, Nat.le_of_ble_eq_true rfl⟩) (pS (wc := [((aT 5), .inl (cI, 12, .inl (u27 5)))]) hK hP hD hN [17] rfl (by decide)) rfl rfl hl.1 rfl (lv_room (Nat.le_of_ble_eq_true rfl)) dX6_leave_87 ⟨Nat.zero_le _, Nat.zero_le _⟩) hS (fun q _ h => hF q h) hF (fun  u28 t H5 locs ht hvm hw hB hz1 hk1 hS => ?_)
            try dsimp only at hw hB
            rw [ht] at hB
            subst hw
            have hP := wrk (w2 := wFm aF aN aT aL aO aH aP aX ++ (wSt cI aN S ++ (wSt cI aT (pset u27 5 (f6_put 12 (u27 5) p1 p2)) ++ (wLo cI aL Y ++ (wHi cS aH ah G ++ (wZs cI ah Z)))))) hP hD [17] rfl (by decide) hk1 hB rfl rfl
            have hD := D_addr (w1 := wFm aF aN aT aL aO aH aP aX ++ (wSt cI aN S ++ (wSt cI aT (pset u27 5 (f6_put 12 (u27 5) p1 p2)) ++ (wLo cI aL Y ++ (wHi cS aH ah G ++ (wZs cI ah Z)))))) hD rfl
            obtain ⟨Rb29, hRb29⟩ : ∃ z : Pic, z = (pset u27 5 (f6_put 12 (u27 5) p1 p2)) := ⟨_, rfl⟩
            rw [← hRb29] at hP hD
            have hR := bd_n hRb29 hR
            refine lv_aload_n hx hb dX6_leave_90 rfl (lv_at hl 0 rfl) ?_
            refine va_get (D := (dC, dI)) (ci := 6) (v := .ref (aT 0)) (C := RX6) (T := TX6) (N := 7) hx hb hts hin6 hown hK hP 0 rfl rfl 1 (by decide) (hw_ hts 8 rfl) (fun _ h9 => h9) rfl dX6_leave_91 ?_
            refine va_get (D := (dC, dI)) (ci := 5) (v := .ref (aT 6)) (C := RX5) (T := TX5) (N := 12) hx hb hts hin5 hown hK hP 12 rfl rfl 6 (by decide) (hw_ hts 10 rfl) (fun _ h9 => h9) rfl dX6_leave_94 ?_
            refine lv_iload_n hx hb dX6_leave_97 rfl (lv_at hl 1 rfl) ?_
            refine lv_iload_n hx hb dX6_leave_98 rfl (lv_at hl 2 rfl) ?_
            refine lv_iconst (v := (-1 : Int32)) hx hb dX6_leave_99 (by decide) ?_
            refine lv_icmp_ne (tgt := 107) hx hb dX6_leave_100 (by decide) (fun _ => ?_) (fun q => absurd q c_4)
            refine lv_iload_n hx hb dX6_leave_107 rfl (lv_at hl 3 rfl) ?_
            have hF := va_free (wc := [((aT 6), .inl (cI, 12, .inl (Rb29 6)))]) hD hS hA [18] rfl
            refine va_callv (va_runS (As := [.ref (aT 6), .int p1, .int p3]) (rest := []) ⟨hx, hb, hml, hown, hts⟩ (met_X6_put l dC dI cI cZ cS (aT 6) 12 (by decide) (Rb29 6) H5.size p1 p3) (va_cwS 3 hts gX6_leave_X6_put rfl rfl rfl (by decide +kernel) ⟨Nat.le_of_ble_eq_true rfl, Nat.le_of_ble_eq_true rfl⟩) (pS (wc := [((aT 6), .inl (cI, 12, .inl (Rb29 6)))]) hK hP hD hN [18] rfl (by decide)) rfl rfl hl.1 rfl (lv_room (Nat.le_of_ble_eq_true rfl)) dX6_leave_108 ⟨Nat.zero_le _, Nat.zero_le _⟩) hS (fun q _ h => hF q h) hF (fun  u30 t H6 locs ht hvm hw hB hz1 hk1 hS => ?_)
            try dsimp only at hw hB
            rw [ht] at hB
            subst hw
            have hP := wrk (w2 := wFm aF aN aT aL aO aH aP aX ++ (wSt cI aN S ++ (wSt cI aT (pset Rb29 6 (f6_put 12 (Rb29 6) p1 p3)) ++ (wLo cI aL Y ++ (wHi cS aH ah G ++ (wZs cI ah Z)))))) hP hD [18] rfl (by decide) hk1 hB rfl rfl
            have hD := D_addr (w1 := wFm aF aN aT aL aO aH aP aX ++ (wSt cI aN S ++ (wSt cI aT (pset Rb29 6 (f6_put 12 (Rb29 6) p1 p3)) ++ (wLo cI aL Y ++ (wHi cS aH ah G ++ (wZs cI ah Z)))))) hD rfl
            obtain ⟨Rb31, hRb31⟩ : ∃ z : Pic, z = (pset Rb29 6 (f6_put 12 (Rb29 6) p1 p3)) := ⟨_, rfl⟩
            rw [← hRb31] at hP hD
            have hR := bd_n hRb31 hR
            refine lv_aload_n hx hb dX6_leave_111 rfl (lv_at hl 0 rfl) ?_
            refine va_get (D := (dC, dI)) (ci := 6) (v := .ref (aL 0)) (C := RX6) (T := TX6) (N := 7) hx hb hts hin6 hown hK hP 0 rfl rfl 2 (by decide) (hw_ hts 11 rfl) (fun _ h9 => h9) rfl dX6_leave_112 ?_
            refine lv_aload_n hx hb dX6_leave_115 rfl (lv_at hl 0 rfl) ?_
            refine va_get (D := (dC, dI)) (ci := 6) (v := .ref (aT 0)) (C := RX6) (T := TX6) (N := 7) hx hb hts hin6 hown hK hP 0 rfl rfl 1 (by decide) (hw_ hts 8 rfl) (fun _ h9 => h9) rfl dX6_leave_116 ?_
            have hF := va_free (wc := wLo cI aL Y ++ (wSt cI aT Rb31)) hD hS hA [23, 24, 25, 12, 13, 14, 15, 16, 17, 18, 19, 20, 21, 22] rfl
            refine va_calli (va_runV (As := [.ref (aT 0)]) (rest := []) ⟨hx, hb, hml, hown, hts⟩ (met_X1_areSound l dC dI cI cZ cS aL aT Y Rb31 H6.size) (cwV 1 hts gX6_leave_X1_areSound rfl rfl rfl (by decide +kernel) ⟨Nat.le_of_ble_eq_true rfl, Nat.le_of_ble_eq_true rfl⟩) (pV (wc := wLo cI aL Y ++ (wSt cI aT Rb31)) (ci := 1) (q0 := 23) hK hP hD hN [23, 24, 25, 12, 13, 14, 15, 16, 17, 18, 19, 20, 21, 22] rfl (by decide) rfl rfl) rfl rfl hl.1 rfl (lv_room (Nat.le_of_ble_eq_true rfl)) dX6_leave_119 ⟨Nat.zero_le _, Nat.zero_le _⟩) hS (fun q _ h => hF q h) hF (fun r32 u33 t H7 locs ht hvm hw hB hz1 hk1 hS => ?_)
            obtain ⟨hw, nb34⟩ := hw
            try dsimp only at hw hB
            rw [ht] at hB
            have hR := bd2_n hw hR
            have hP := wrk2 (w2 := wFm aF aN aT aL aO aH aP aX ++ (wSt cI aN S ++ (wSt cI aT Rb31 ++ (wLo cI aL u33 ++ (wHi cS aH ah G ++ (wZs cI ah Z)))))) (wr := wFm aF aN aT aL aO aH aP aX ++ (wSt cI aN S ++ (wHi cS aH ah G ++ (wZs cI ah Z)))) hP hD [23, 24, 25, 12, 13, 14, 15, 16, 17, 18, 19, 20, 21, 22] [0, 1, 2, 3, 4, 5, 6, 7, 8, 9, 10, 11, 26, 27, 28, 29, 30, 31, 32, 33, 34, 35, 36, 37, 38, 39, 40, 41, 42, 43, 44, 45, 46, 47, 48, 49, 50, 51, 52, 53, 54, 55, 56, 57, 58, 59, 60, 61, 62, 63, 64, 65, 66, 67, 68, 69, 70, 71, 72, 73, 74, 75, 76, 77, 78, 79, 80, 81, 82, 83, 84, 85, 86, 87, 88, 89, 90, 91, 92, 93] rfl rfl (by decide) hk1 hB [0, 1, 2, 3, 4, 5, 6, 7, 8, 9, 10, 11, 83, 84, 85, 86, 87, 88, 89, 90, 91, 92, 93, 80, 81, 82, 12, 13, 14, 15, 16, 17, 18, 19, 20, 21, 22, 23, 24, 25, 26, 27, 28, 29, 30, 31, 32, 33, 34, 35, 36, 37, 38, 39, 40, 41, 42, 43, 44, 45, 46, 47, 48, 49, 50, 51, 52, 53, 54, 55, 56, 57, 58, 59, 60, 61, 62, 63, 64, 65, 66, 67, 68, 69, 70, 71, 72, 73, 74, 75, 76, 77, 78, 79] rfl
            have hD := D_addr (w1 := wFm aF aN aT aL aO aH aP aX ++ (wSt cI aN S ++ (wSt cI aT Rb31 ++ (wLo cI aL u33 ++ (wHi cS aH ah G ++ (wZs cI ah Z)))))) hD rfl
            refine lv_if_ne (tgt := 135) hx hb dX6_leave_122 (by decide) (fun c_35 => ?_) (fun c_35 => ?_)
            · rw [if_neg c_35] at hR
              refine lv_aload_n hx hb dX6_leave_135 rfl (lv_at hl 0 rfl) ?_
              refine va_get (D := (dC, dI)) (ci := 6) (v := .ref (aN 0)) (C := RX6) (T := TX6) (N := 7) hx hb hts hin6 hown hK hP 0 rfl rfl 0 (by decide) (hw_ hts 7 rfl) (fun _ h9 => h9) rfl dX6_leave_136 ?_
              refine va_get (D := (dC, dI)) (ci := 5) (v := .ref (aN 5)) (C := RX5) (T := TX5) (N := 12) hx hb hts hin5 hown hK hP 1 rfl rfl 5 (by decide) (hw_ hts 9 rfl) (fun _ h9 => h9) rfl dX6_leave_139 ?_
              refine lv_iload_n hx hb dX6_leave_142 rfl (lv_at hl 1 rfl) ?_
              refine va_calli (va_runS (As := [.ref (aN 5), .int p1]) (rest := []) ⟨hx, hb, hml, hown, hts⟩ (met_X6_at l dC dI cI cZ cS (aN 5) 12 (by decide) (S 5) H7.size p1) (va_cwS 2 hts gX6_leave_X6_at rfl rfl rfl (by decide +kernel) ⟨Nat.le_of_ble_eq_true rfl, Nat.le_of_ble_eq_true rfl⟩) (pS (wc := [((aN 5), .inl (cI, 12, .inl (S 5)))]) hK hP hD hN [6] rfl (by decide)) rfl rfl hl.1 rfl (lv_room (Nat.le_of_ble_eq_true rfl)) dX6_leave_143 ⟨Nat.zero_le _, Nat.zero_le _⟩) hS (fun q _ h => a0_in hS hA q h) (a0_in hS hA) (fun r36 u t H8 locs ht hvm hw hB hz1 hk1 hS => ?_)
              subst hw
              have hP := rdk hP hk1
              refine lv_topi (fun v37 hv37 => ?_)
              have hR := bd_n hv37 hR
              refine lv_istore (lv' := [(4, .int v37), (0, .ref (aF 0)), (1, .int p1), (2, .int p2), (3, .int p3)]) hx hb dX6_leave_146 hl (by decide) rfl (fun ls hl => ?_)
              refine lv_aload_n hx hb dX6_leave_148 rfl (lv_at hl 1 rfl) ?_
              have hF := va_free (wc := wFm aF aN aT aL aO aH aP aX ++ (wSt cI aN S ++ (wSt cI aT Rb31 ++ (wHi cS aH ah G ++ (wZs cI ah Z))))) hD hS hA [0, 1, 2, 3, 4, 5, 6, 7, 8, 9, 10, 11, 12, 13, 14, 15, 16, 17, 18, 19, 20, 21, 22, 26, 27, 28, 29, 30, 31, 32, 33, 34, 35, 36, 37, 38, 39, 40, 41, 42, 43, 44, 45, 46, 47, 48, 49, 50, 51, 52, 53, 54, 55, 56, 57, 58, 59, 60, 61, 62, 63, 64, 65, 66, 67, 68, 69, 70, 71, 72, 73, 74, 75, 76, 77, 78, 79, 80, 81, 82, 83, 84, 85, 86, 87, 88, 89, 90, 91, 92, 93] rfl
              refine va_callv (va_runV (As := []) (rest := []) ⟨hx, hb, hml, hown, hts⟩ (met_X6_takeOverTrial l dC dI cI cZ cS aF aN aT aL aO aH ah aP aX S Rb31 G Z H8.size) (cwV 0 hts gX6_leave_X6_takeOverTrial rfl rfl rfl (by decide +kernel) ⟨Nat.le_of_ble_eq_true rfl, Nat.le_of_ble_eq_true rfl⟩) (pV (wc := wFm aF aN aT aL aO aH aP aX ++ (wSt cI aN S ++ (wSt cI aT Rb31 ++ (wHi cS aH ah G ++ (wZs cI ah Z))))) (ci := 6) (q0 := 0) hK hP hD hN [0, 1, 2, 3, 4, 5, 6, 7, 8, 9, 10, 11, 12, 13, 14, 15, 16, 17, 18, 19, 20, 21, 22, 26, 27, 28, 29, 30, 31, 32, 33, 34, 35, 36, 37, 38, 39, 40, 41, 42, 43, 44, 45, 46, 47, 48, 49, 50, 51, 52, 53, 54, 55, 56, 57, 58, 59, 60, 61, 62, 63, 64, 65, 66, 67, 68, 69, 70, 71, 72, 73, 74, 75, 76, 77, 78, 79, 80, 81, 82, 83, 84, 85, 86, 87, 88, 89, 90, 91, 92, 93] rfl (by decide) rfl rfl) rfl rfl hl.1 rfl (lv_room (Nat.le_of_ble_eq_true rfl)) dX6_leave_149 ⟨Nat.zero_le _, Nat.zero_le _⟩) hS (fun q _ h => hF q h) hF (fun  u t H9 locs ht hvm hw hB hz1 hk1 hS => ?_)
              obtain ⟨u38, u39, u40⟩ := u
              try dsimp only at hw hB
              rw [ht] at hB
              have hR := bd3_n hw hR
              have hP := wrk2 (w2 := wFm aF aN aT aL aO aH aP aX ++ (wSt cI aN u38 ++ (wSt cI aT Rb31 ++ (wLo cI aL u33 ++ (wHi cS aH ah u39 ++ (wZs cI ah u40)))))) (wr := wLo cI aL u33) hP hD [0, 1, 2, 3, 4, 5, 6, 7, 8, 9, 10, 11, 12, 13, 14, 15, 16, 17, 18, 19, 20, 21, 22, 26, 27, 28, 29, 30, 31, 32, 33, 34, 35, 36, 37, 38, 39, 40, 41, 42, 43, 44, 45, 46, 47, 48, 49, 50, 51, 52, 53, 54, 55, 56, 57, 58, 59, 60, 61, 62, 63, 64, 65, 66, 67, 68, 69, 70, 71, 72, 73, 74, 75, 76, 77, 78, 79, 80, 81, 82, 83, 84, 85, 86, 87, 88, 89, 90, 91, 92, 93] [23, 24, 25] rfl rfl (by decide) hk1 hB [3, 4, 5, 6, 7, 8, 9, 10, 11, 12, 13, 14, 15, 16, 17, 18, 19, 20, 21, 22, 23, 24, 25, 0, 1, 2, 26, 27, 28, 29, 30, 31, 32, 33, 34, 35, 36, 37, 38, 39, 40, 41, 42, 43, 44, 45, 46, 47, 48, 49, 50, 51, 52, 53, 54, 55, 56, 57, 58, 59, 60, 61, 62, 63, 64, 65, 66, 67, 68, 69, 70, 71, 72, 73, 74, 75, 76, 77, 78, 79, 80, 81, 82, 83, 84, 85, 86, 87, 88, 89, 90, 91, 92, 93] rfl
              have hD := D_addr (w1 := wFm aF aN aT aL aO aH aP aX ++ (wSt cI aN u38 ++ (wSt cI aT Rb31 ++ (wLo cI aL u33 ++ (wHi cS aH ah u39 ++ (wZs cI ah u40)))))) hD rfl
              refine lv_iload hx hb dX6_leave_152 (lv_at hl 0 rfl) ?_
              exact vx_ret (W.widen (k := 1) (n := 6) (Nat.zero_le _) (Nat.zero_le _) (W.iret (v := v37) hx hb hr (fun t ht hW => ⟨⟨v37, (u38, Rb31, u33, u39, u40), rfl, hR, P_at ht hP⟩, hS.F ht⟩) hS.2.2 dX6_leave_154))
            · rw [if_pos c_35] at hR
              obtain ⟨sa, hsa⟩ := hXW.1 113 (by decide)
              exact vx_throwS (text := strT 113) (sa := sa) (A := A) (names := ["java/lang/RuntimeException", "java/lang/Exception"]) (cls := "java/lang/IllegalStateException") hx hb hfl hown (by decide) (by decide) (hw_ hts 5 rfl) (hw_ hts 6 rfl) hsa (thr_at3 hXW (fun w h => hts w (List.mem_cons_of_mem _ (List.mem_append_right _ h)))) (by decide +kernel) hU hNs hS (hl.1.trans hml.symm) dX6_leave_125 dX6_leave_128 dX6_leave_129 dX6_leave_131 dX6_leave_134 (fun x hx => (htab x hx).elim) (Nat.lt_of_sub_pos (Nat.le_of_ble_eq_true rfl)) (Nat.le_of_ble_eq_true rfl) (Nat.le_of_ble_eq_true rfl) (Nat.le_of_ble_eq_true rfl) hlocks (fun t h1 h2 h3 => ⟨(S, Rb31, u33, G, Z), trivial, ⟨(3 : Int32), rfl, by decide, hR, thr_P hP h3⟩, thr_F hS h2 h3⟩) hS.2.2 (Nat.le_of_ble_eq_true rfl) (Nat.le_of_ble_eq_true rfl)
          · rw [if_pos c_26] at hR
            obtain ⟨sa, hsa⟩ := hXW.1 93 (by decide)
            exact vx_throwS (text := strT 93) (sa := sa) (A := A) (names := ["java/lang/RuntimeException", "java/lang/Exception"]) (cls := "java/lang/IllegalArgumentException") hx hb hfl hown (by decide) (by decide) (hw_ hts 3 rfl) (hw_ hts 4 rfl) hsa (thr_at2 hXW (fun w h => hts w (List.mem_cons_of_mem _ (List.mem_append_left _ (List.mem_append_right _ h))))) (by decide +kernel) hU hNs hS (hl.1.trans hml.symm) dX6_leave_57 dX6_leave_60 dX6_leave_61 dX6_leave_63 dX6_leave_66 (fun x hx => (htab x hx).elim) (Nat.lt_of_sub_pos (Nat.le_of_ble_eq_true rfl)) (Nat.le_of_ble_eq_true rfl) (Nat.le_of_ble_eq_true rfl) (Nat.le_of_ble_eq_true rfl) hlocks (fun t h1 h2 h3 => ⟨(S, R, Y, G, Z), trivial, ⟨(2 : Int32), rfl, by decide, hR, thr_P hP h3⟩, thr_F hS h2 h3⟩) hS.2.2 (Nat.le_of_ble_eq_true rfl) (Nat.le_of_ble_eq_true rfl)
      · rw [if_pos c_22] at hR
        obtain ⟨sa, hsa⟩ := hXW.1 90 (by decide)
        exact vx_throwS (text := strT 90) (sa := sa) (A := A) (names := ["java/lang/RuntimeException", "java/lang/Exception"]) (cls := "java/lang/IndexOutOfBoundsException") hx hb hfl hown (by decide) (by decide) (hw_ hts 1 rfl) (hw_ hts 2 rfl) hsa (thr_at1 hXW (fun w h => hts w (List.mem_cons_of_mem _ (List.mem_append_left _ (List.mem_append_left _ (List.mem_append_right _ h)))))) (by decide +kernel) hU hNs hS (hl.1.trans hml.symm) dX6_leave_27 dX6_leave_30 dX6_leave_31 dX6_leave_33 dX6_leave_36 (fun x hx => (htab x hx).elim) (Nat.lt_of_sub_pos (Nat.le_of_ble_eq_true rfl)) (Nat.le_of_ble_eq_true rfl) (Nat.le_of_ble_eq_true rfl) (Nat.le_of_ble_eq_true rfl) hlocks (fun t h1 h2 h3 => ⟨(S, R, Y, G, Z), trivial, ⟨(1 : Int32), rfl, by decide, hR, thr_P hP h3⟩, thr_F hS h2 h3⟩) hS.2.2 (Nat.le_of_ble_eq_true rfl) (Nat.le_of_ble_eq_true rfl)
abbrev rm_X6_come : Room := { frames := 6, cells := 1, slots := 6, locals := 110 }
abbrev x_X6_come (dC : Nat → ClassId) (dI : Nat → Nat → Nat) (cI cZ cS : ClassId) (aF aN aT aL aO aH : Nat → Nat) (ah : Nat → Nat → Nat) (aP aX : Nat → Nat)  (res : Int32 × Int32 × Pic × Pic × Pic × (Nat → Pic)) (A : Nat → Prop) : String → State → State → Prop := vx_X (fun (_ : Pic × Pic × Pic × (Nat → Pic)) => True) (fun E u t => ∃ c : Int32, exN c = E ∧ ¬ c = 0 ∧ (c, (0 : Int32), u) = res ∧ va_P (dC, dI) vwCl (wFm aF aN aT aL aO aH aP aX ++ (wSt cI aN u.1 ++ (wSt cI aT u.2.1 ++ (wHi cS aH ah u.2.2.1 ++ (wZs cI ah u.2.2.2))))) t.heap) A
abbrev q_X6_come (dC : Nat → ClassId) (dI : Nat → Nat → Nat) (cI cZ cS : ClassId) (aF aN aT aL aO aH : Nat → Nat) (ah : Nat → Nat → Nat) (aP aX : Nat → Nat)  (res : Int32 × Int32 × Pic × Pic × Pic × (Nat → Pic)) (A : Nat → Prop) : Array Value → State → Outcome → State → Prop := va_Qi (fun (r : Int32) (u : Pic × Pic × Pic × (Nat → Pic)) => ((0 : Int32), r, u) = res) (fun u t => va_P (dC, dI) vwCl (wFm aF aN aT aL aO aH aP aX ++ (wSt cI aN u.1 ++ (wSt cI aT u.2.1 ++ (wHi cS aH ah u.2.2.1 ++ (wZs cI ah u.2.2.2))))) t.heap) A
set_option maxHeartbeats 4000000 in
set_option maxRecDepth 100000 in
theorem met_X6_come (l : Launch) (hfl : l.stackTraces = false) (dC : Nat → ClassId) (dI : Nat → Nat → Nat) (cI cZ cS : ClassId) (aF aN aT aL aO aH : Nat → Nat) (ah : Nat → Nat → Nat) (aP aX : Nat → Nat) (S : Pic) (R : Pic) (G : Pic) (Z : (Nat → Pic)) (base sz : Nat) (p1 : Int32) (p2 : Int32) : vx_Met l yX6_come wsX6_come rm_X6_come (va_Pc [.ref (aF 0), .int p1, .int p2] (pX (dC, dI) (tyS cI cZ cS) (wFm aF aN aT aL aO aH aP aX ++ (wSt cI aN S ++ (wSt cI aT R ++ (wHi cS aH ah G ++ (wZs cI ah Z))))) base sz)) (q_X6_come dC dI cI cZ cS aF aN aT aL aO aH ah aP aX (f6_come S R G Z p1 p2) (va_A (wFm aF aN aT aL aO aH aP aX ++ (wSt cI aN S ++ (wSt cI aT R ++ (wHi cS aH ah G ++ (wZs cI ah Z))))) sz)) (x_X6_come dC dI cI cZ cS aF aN aT aL aO aH ah aP aX (f6_come S R G Z p1 p2) (va_A (wFm aF aN aT aL aO aH aP aX ++ (wSt cI aN S ++ (wSt cI aT R ++ (wHi cS aH ah G ++ (wZs cI ah Z))))) sz)) 1 6 (va_A (wFm aF aN aT aL aO aH aP aX ++ (wSt cI aN S ++ (wSt cI aT R ++ (wHi cS aH ah G ++ (wZs cI ah Z))))) sz) := by
  refine vx_ofW (cc := cX6_come) (maxL := 4) (ret := (some .int)) (by decide) rfl ?_
  intro p e s m args below meth c s₁ B hml htab hv
  obtain ⟨rfl, hsz, hP, hK, hD0, hN, hbs, hXW⟩ := hv
  have hx := B.exec
  have hb := B.bytes
  have hr := B.returns
  have hts := atoms_spec (ws := wsX6_come) B.pre
  have hown : s.vm.findClass RX6 = some m.cls := findClass_of_methodNamed B.named
  have hlocks := B.notSynchronized
  subst hsz
  have hD := hD0.self (sz := s.heap.size)
  generalize hAe : va_A (wFm aF aN aT aL aO aH aP aX ++ (wSt cI aN S ++ (wSt cI aT R ++ (wHi cS aH ah G ++ (wZs cI ah Z))))) s.heap.size = A at hD ⊢
  have hA : ∀ q : Nat, s.heap.size ≤ q → A q := fun q h => by rw [← hAe]; exact Or.inr h
  have hS : va_S A s.heap s.heap [] := va_S.rf
  have hAb : ∀ q, A q → base ≤ q := fun q h => by rw [← hAe] at h; exact base_of hD0 hbs q h
  have hU := hXW.2.1.narrow hAb
  have hNs := hXW.2.2.1.narrow hAb
  have hP : va_P (dC, dI) vwCl (wFm aF aN aT aL aO aH aP aX ++ (wSt cI aN S ++ (wSt cI aT R ++ (wHi cS aH ah G ++ (wZs cI ah Z))))) s.heap := hP
  generalize hR : f6_come S R G Z p1 p2 = res
  rw [f6_come] at hR
  have hin6 : ∀ w ∈ wsX60, w ∈ wsX6_come := by decide +kernel
  have hin5 : ∀ w ∈ wsX50, w ∈ wsX6_come := by decide +kernel
  have hl := lv_entry ([.ref (aF 0), .int p1, .int p2]) (n := 4) (Nat.le_of_ble_eq_true rfl)
  rw [lg_entry_eq]
  generalize (lg_sl ([.ref (aF 0), .int p1, .int p2]) ++ List.replicate (4 - (lg_sl ([.ref (aF 0), .int p1, .int p2])).length) Slot.unset).toArray = ls at hl ⊢
  have hl : lv_has ls 4 [(0, .ref (aF 0)), (1, .int p1), (2, .int p2)] := hl
  refine lv_aload_n hx hb dX6_come_0 rfl (lv_at hl 0 rfl) ?_
  refine va_get (D := (dC, dI)) (ci := 6) (v := .ref (aN 0)) (C := RX6) (T := TX6) (N := 7) hx hb hts hin6 hown hK hP 0 rfl rfl 0 (by decide) (hw_ hts 7 rfl) (fun _ h9 => h9) rfl dX6_come_1 ?_
  refine lv_iload_n hx hb dX6_come_4 rfl (lv_at hl 1 rfl) ?_
  refine va_calli (va_runV (As := [.int p1]) (rest := []) ⟨hx, hb, hml, hown, hts⟩ (met_X5_hasGuest l dC dI cI cZ cS aN S s.heap.size p1) (cwV 1 hts gX6_come_X5_hasGuest rfl rfl rfl (by decide +kernel) ⟨Nat.le_of_ble_eq_true rfl, Nat.le_of_ble_eq_true rfl⟩) (pV (wc := wSt cI aN S) (ci := 5) (q0 := 1) hK hP hD hN [1, 2, 3, 4, 5, 6, 7, 8, 9, 10, 11] rfl (by decide) rfl rfl) rfl rfl hl.1 rfl (lv_room (Nat.le_of_ble_eq_true rfl)) dX6_come_5 ⟨Nat.zero_le _, Nat.zero_le _⟩) hS (fun q _ h => a0_in hS hA q h) (a0_in hS hA) (fun r1 u t H1 locs ht hvm hw hB hz1 hk1 hS => ?_)
  obtain ⟨hw, nb2⟩ := hw
  subst hw
  have hP := rdk hP hk1
  refine lv_if_ne (tgt := 21) hx hb dX6_come_8 (by decide) (fun c_3 => ?_) (fun c_3 => ?_)
  · rw [if_neg c_3] at hR
    refine lv_iload_n hx hb dX6_come_21 rfl (lv_at hl 2 rfl) ?_
    refine lv_iconst (v := (0 : Int32)) hx hb dX6_come_22 (by decide) ?_
    refine lv_bipush (v := (127 : Int32)) hx hb dX6_come_23 (by decide) ?_
    refine va_calli (va_runS (As := [.int p2, .int (0 : Int32), .int (127 : Int32)]) (rest := []) ⟨hx, hb, hml, hown, hts⟩ (met_X6_isWithin l dC dI cI cZ cS H1.size p2 (0 : Int32) (127 : Int32)) (va_cwS 3 hts gX6_come_X6_isWithin rfl rfl rfl (by decide +kernel) ⟨Nat.le_of_ble_eq_true rfl, Nat.le_of_ble_eq_true rfl⟩) (pS (wc := []) hK hP hD hN [] rfl (by decide)) rfl rfl hl.1 rfl (lv_room (Nat.le_of_ble_eq_true rfl)) dX6_come_25 ⟨Nat.zero_le _, Nat.zero_le _⟩) hS (fun q _ h => a0_in hS hA q h) (a0_in hS hA) (fun r4 u t H2 locs ht hvm hw hB hz1 hk1 hS => ?_)
    obtain ⟨hw, nb5⟩ := hw
    subst hw
    have hP := rdk hP hk1
    refine lv_if_ne (tgt := 41) hx hb dX6_come_28 (by decide) (fun c_6 => ?_) (fun c_6 => ?_)
    · rw [if_neg c_6] at hR
      refine lv_aload_n hx hb dX6_come_41 rfl (lv_at hl 0 rfl) ?_
      refine va_get (D := (dC, dI)) (ci := 6) (v := .ref (aT 0)) (C := RX6) (T := TX6) (N := 7) hx hb hts hin6 hown hK hP 0 rfl rfl 1 (by decide) (hw_ hts 8 rfl) (fun _ h9 => h9) rfl dX6_come_42 ?_
      refine lv_aload_n hx hb dX6_come_45 rfl (lv_at hl 0 rfl) ?_
      refine va_get (D := (dC, dI)) (ci := 6) (v := .ref (aN 0)) (C := RX6) (T := TX6) (N := 7) hx hb hts hin6 hown hK hP 0 rfl rfl 0 (by decide) (hw_ hts 7 rfl) (fun _ h9 => h9) rfl dX6_come_46 ?_
      have hF := va_free (wc := wSt cI aT R ++ (wSt cI aN S)) hD hS hA [12, 13, 14, 15, 16, 17, 18, 19, 20, 21, 22, 1, 2, 3, 4, 5, 6, 7, 8, 9, 10, 11] rfl
      refine va_callv (va_runV (As := [.ref (aN 0)]) (rest := []) ⟨hx, hb, hml, hown, hts⟩ (met_X5_copyFrom l dC dI cI cZ cS aT aN R S H2.size) (cwV 1 hts gX6_come_X5_copyFrom rfl rfl rfl (by decide +kernel) ⟨Nat.le_of_ble_eq_true rfl, Nat.le_of_ble_eq_true rfl⟩) (pV (wc := wSt cI aT R ++ (wSt cI aN S)) (ci := 5) (q0 := 12) hK hP hD hN [12, 13, 14, 15, 16, 17, 18, 19, 20, 21, 22, 1, 2, 3, 4, 5, 6, 7, 8, 9, 10, 11] rfl (by decide) rfl rfl) rfl rfl hl.1 rfl (lv_room (Nat.le_of_ble_eq_true rfl)) dX6_come_49 ⟨Nat.zero_le _, Nat.zero_le _⟩) hS (fun q _ h => hF q h) hF (fun  u7 t H3 locs ht hvm hw hB hz1 hk1 hS => ?_)
      try dsimp only at hw hB
      rw [ht] at hB
      have hR := bd_n hw hR
      have hP := wrk2 (w2 := wFm aF aN aT aL aO aH aP aX ++ (wSt cI aN S ++ (wSt cI aT u7 ++ (wHi cS aH ah G ++ (wZs cI ah Z))))) (wr := wFm aF aN aT aL aO aH aP aX ++ (wHi cS aH ah G ++ (wZs cI ah Z))) hP hD [12, 13, 14, 15, 16, 17, 18, 19, 20, 21, 22, 1, 2, 3, 4, 5, 6, 7, 8, 9, 10, 11] [0, 23, 24, 25, 26, 27, 28, 29, 30, 31, 32, 33, 34, 35, 36, 37, 38, 39, 40, 41, 42, 43, 44, 45, 46, 47, 48, 49, 50, 51, 52, 53, 54, 55, 56, 57, 58, 59, 60, 61, 62, 63, 64, 65, 66, 67, 68, 69, 70, 71, 72, 73, 74, 75, 76, 77, 78, 79, 80, 81, 82, 83, 84, 85, 86, 87, 88, 89, 90] rfl rfl (by decide) hk1 hB [0, 80, 81, 82, 83, 84, 85, 86, 87, 88, 89, 90, 69, 70, 71, 72, 73, 74, 75, 76, 77, 78, 79, 1, 2, 3, 4, 5, 6, 7, 8, 9, 10, 11, 12, 13, 14, 15, 16, 17, 18, 19, 20, 21, 22, 23, 24, 25, 26, 27, 28, 29, 30, 31, 32, 33, 34, 35, 36, 37, 38, 39, 40, 41, 42, 43, 44, 45, 46, 47, 48, 49, 50, 51, 52, 53, 54, 55, 56, 57, 58, 59, 60, 61, 62, 63, 64, 65, 66, 67, 68] rfl
      have hD := D_addr (w1 := wFm aF aN aT aL aO aH aP aX ++ (wSt cI aN S ++ (wSt cI aT u7 ++ (wHi cS aH ah G ++ (wZs cI ah Z))))) hD rfl
      refine lv_aload_n hx hb dX6_come_52 rfl (lv_at hl 0 rfl) ?_
      refine va_get (D := (dC, dI)) (ci := 6) (v := .ref (aT 0)) (C := RX6) (T := TX6) (N := 7) hx hb hts hin6 hown hK hP 0 rfl rfl 1 (by decide) (hw_ hts 8 rfl) (fun _ h9 => h9) rfl dX6_come_53 ?_
      refine va_get (D := (dC, dI)) (ci := 5) (v := .ref (aT 8)) (C := RX5) (T := TX5) (N := 12) hx hb hts hin5 hown hK hP 12 rfl rfl 8 (by decide) (hw_ hts 9 rfl) (fun _ h9 => h9) rfl dX6_come_56 ?_
      refine lv_iload_n hx hb dX6_come_59 rfl (lv_at hl 1 rfl) ?_
      refine lv_iload_n hx hb dX6_come_60 rfl (lv_at hl 2 rfl) ?_
      have hF := va_free (wc := [((aT 8), .inl (cI, 6, .inl (u7 8)))]) hD hS hA [19] rfl
      refine va_callv (va_runS (As := [.ref (aT 8), .int p1, .int p2]) (rest := []) ⟨hx, hb, hml, hown, hts⟩ (met_X6_put l dC dI cI cZ cS (aT 8) 6 (by decide) (u7 8) H3.size p1 p2) (va_cwS 3 hts gX6_come_X6_put rfl rfl rfl (by decide +kernel) ⟨Nat.le_of_ble_eq_true rfl, Nat.le_of_ble_eq_true rfl⟩) (pS (wc := [((aT 8), .inl (cI, 6, .inl (u7 8)))]) hK hP hD hN [19] rfl (by decide)) rfl rfl hl.1 rfl (lv_room (Nat.le_of_ble_eq_true rfl)) dX6_come_61 ⟨Nat.zero_le _, Nat.zero_le _⟩) hS (fun q _ h => hF q h) hF (fun  u8 t H4 locs ht hvm hw hB hz1 hk1 hS => ?_)
      try dsimp only at hw hB
      rw [ht] at hB
      subst hw
      have hP := wrk (w2 := wFm aF aN aT aL aO aH aP aX ++ (wSt cI aN S ++ (wSt cI aT (pset u7 8 (f6_put 6 (u7 8) p1 p2)) ++ (wHi cS aH ah G ++ (wZs cI ah Z))))) hP hD [19] rfl (by decide) hk1 hB rfl rfl
      have hD := D_addr (w1 := wFm aF aN aT aL aO aH aP aX ++ (wSt cI aN S ++ (wSt cI aT (pset u7 8 (f6_put 6 (u7 8) p1 p2)) ++ (wHi cS aH ah G ++ (wZs cI ah Z))))) hD rfl
      obtain ⟨Rb9, hRb9⟩ : ∃ z : Pic, z = (pset u7 8 (f6_put 6 (u7 8) p1 p2)) := ⟨_, rfl⟩
      rw [← hRb9] at hP hD
      have hR := bd_n hRb9 hR
      refine lv_aload_n hx hb dX6_come_64 rfl (lv_at hl 0 rfl) ?_
      refine va_get (D := (dC, dI)) (ci := 6) (v := .ref (aT 0)) (C := RX6) (T := TX6) (N := 7) hx hb hts hin6 hown hK hP 0 rfl rfl 1 (by decide) (hw_ hts 8 rfl) (fun _ h9 => h9) rfl dX6_come_65 ?_
      refine va_calli (va_runV (As := []) (rest := []) ⟨hx, hb, hml, hown, hts⟩ (met_X5_hasVetoedDish l dC dI cI cZ cS aT Rb9 H4.size) (cwV 0 hts gX6_come_X5_hasVetoedDish rfl rfl rfl (by decide +kernel) ⟨Nat.le_of_ble_eq_true rfl, Nat.le_of_ble_eq_true rfl⟩) (pV (wc := wSt cI aT Rb9) (ci := 5) (q0 := 12) hK hP hD hN [12, 13, 14, 15, 16, 17, 18, 19, 20, 21, 22] rfl (by decide) rfl rfl) rfl rfl hl.1 rfl (lv_room (Nat.le_of_ble_eq_true rfl)) dX6_come_68 ⟨Nat.zero_le _, Nat.zero_le _⟩) hS (fun q _ h => a0_in hS hA q h) (a0_in hS hA) (fun r10 u t H5 locs ht hvm hw hB hz1 hk1 hS => ?_)
      obtain ⟨hw, nb11⟩ := hw
      have hR := bd_n hw hR
      have hP := rdk hP hk1
      refine lv_if_eq (tgt := 84) hx hb dX6_come_71 (by decide) (fun c_12 => ?_) (fun c_12 => ?_)
      · rw [if_pos c_12] at hR
        refine lv_aload_n hx hb dX6_come_84 rfl (lv_at hl 0 rfl) ?_
        refine va_get (D := (dC, dI)) (ci := 6) (v := .ref (aN 0)) (C := RX6) (T := TX6) (N := 7) hx hb hts hin6 hown hK hP 0 rfl rfl 0 (by decide) (hw_ hts 7 rfl) (fun _ h9 => h9) rfl dX6_come_85 ?_
        refine va_get (D := (dC, dI)) (ci := 5) (v := .ref (aN 8)) (C := RX5) (T := TX5) (N := 12) hx hb hts hin5 hown hK hP 1 rfl rfl 8 (by decide) (hw_ hts 9 rfl) (fun _ h9 => h9) rfl dX6_come_88 ?_
        refine lv_iload_n hx hb dX6_come_91 rfl (lv_at hl 1 rfl) ?_
        refine va_calli (va_runS (As := [.ref (aN 8), .int p1]) (rest := []) ⟨hx, hb, hml, hown, hts⟩ (met_X6_at l dC dI cI cZ cS (aN 8) 6 (by decide) (S 8) H5.size p1) (va_cwS 2 hts gX6_come_X6_at rfl rfl rfl (by decide +kernel) ⟨Nat.le_of_ble_eq_true rfl, Nat.le_of_ble_eq_true rfl⟩) (pS (wc := [((aN 8), .inl (cI, 6, .inl (S 8)))]) hK hP hD hN [8] rfl (by decide)) rfl rfl hl.1 rfl (lv_room (Nat.le_of_ble_eq_true rfl)) dX6_come_92 ⟨Nat.zero_le _, Nat.zero_le _⟩) hS (fun q _ h => a0_in hS hA q h) (a0_in hS hA) (fun r13 u t H6 locs ht hvm hw hB hz1 hk1 hS => ?_)
        subst hw
        have hP := rdk hP hk1
        refine lv_topi (fun v14 hv14 => ?_)
        have hR := bd_n hv14 hR
        refine lv_istore_n (lv' := [(3, .int v14), (0, .ref (aF 0)), (1, .int p1), (2, .int p2)]) hx hb dX6_come_95 rfl hl (by decide) rfl (fun ls hl => ?_)
        refine lv_aload_n hx hb dX6_come_96 rfl (lv_at hl 1 rfl) ?_
        have hF := va_free (wc := wFm aF aN aT aL aO aH aP aX ++ (wSt cI aN S ++ (wSt cI aT Rb9 ++ (wHi cS aH ah G ++ (wZs cI ah Z))))) hD hS hA [0, 1, 2, 3, 4, 5, 6, 7, 8, 9, 10, 11, 12, 13, 14, 15, 16, 17, 18, 19, 20, 21, 22, 23, 24, 25, 26, 27, 28, 29, 30, 31, 32, 33, 34, 35, 36, 37, 38, 39, 40, 41, 42, 43, 44, 45, 46, 47, 48, 49, 50, 51, 52, 53, 54, 55, 56, 57, 58, 59, 60, 61, 62, 63, 64, 65, 66, 67, 68, 69, 70, 71, 72, 73, 74, 75, 76, 77, 78, 79, 80, 81, 82, 83, 84, 85, 86, 87, 88, 89, 90] rfl
        refine va_callv (va_runV (As := []) (rest := []) ⟨hx, hb, hml, hown, hts⟩ (met_X6_takeOverTrial l dC dI cI cZ cS aF aN aT aL aO aH ah aP aX S Rb9 G Z H6.size) (cwV 0 hts gX6_come_X6_takeOverTrial rfl rfl rfl (by decide +kernel) ⟨Nat.le_of_ble_eq_true rfl, Nat.le_of_ble_eq_true rfl⟩) (pV (wc := wFm aF aN aT aL aO aH aP aX ++ (wSt cI aN S ++ (wSt cI aT Rb9 ++ (wHi cS aH ah G ++ (wZs cI ah Z))))) (ci := 6) (q0 := 0) hK hP hD hN [0, 1, 2, 3, 4, 5, 6, 7, 8, 9, 10, 11, 12, 13, 14, 15, 16, 17, 18, 19, 20, 21, 22, 23, 24, 25, 26, 27, 28, 29, 30, 31, 32, 33, 34, 35, 36, 37, 38, 39, 40, 41, 42, 43, 44, 45, 46, 47, 48, 49, 50, 51, 52, 53, 54, 55, 56, 57, 58, 59, 60, 61, 62, 63, 64, 65, 66, 67, 68, 69, 70, 71, 72, 73, 74, 75, 76, 77, 78, 79, 80, 81, 82, 83, 84, 85, 86, 87, 88, 89, 90] rfl (by decide) rfl rfl) rfl rfl hl.1 rfl (lv_room (Nat.le_of_ble_eq_true rfl)) dX6_come_97 ⟨Nat.zero_le _, Nat.zero_le _⟩) hS (fun q _ h => hF q h) hF (fun  u t H7 locs ht hvm hw hB hz1 hk1 hS => ?_)
        obtain ⟨u15, u16, u17⟩ := u
        try dsimp only at hw hB
        rw [ht] at hB
        have hR := bd3_n hw hR
        have hP := wrk2 (w2 := wFm aF aN aT aL aO aH aP aX ++ (wSt cI aN u15 ++ (wSt cI aT Rb9 ++ (wHi cS aH ah u16 ++ (wZs cI ah u17))))) (wr := []) hP hD [0, 1, 2, 3, 4, 5, 6, 7, 8, 9, 10, 11, 12, 13, 14, 15, 16, 17, 18, 19, 20, 21, 22, 23, 24, 25, 26, 27, 28, 29, 30, 31, 32, 33, 34, 35, 36, 37, 38, 39, 40, 41, 42, 43, 44, 45, 46, 47, 48, 49, 50, 51, 52, 53, 54, 55, 56, 57, 58, 59, 60, 61, 62, 63, 64, 65, 66, 67, 68, 69, 70, 71, 72, 73, 74, 75, 76, 77, 78, 79, 80, 81, 82, 83, 84, 85, 86, 87, 88, 89, 90] [] rfl rfl (by decide) hk1 hB [0, 1, 2, 3, 4, 5, 6, 7, 8, 9, 10, 11, 12, 13, 14, 15, 16, 17, 18, 19, 20, 21, 22, 23, 24, 25, 26, 27, 28, 29, 30, 31, 32, 33, 34, 35, 36, 37, 38, 39, 40, 41, 42, 43, 44, 45, 46, 47, 48, 49, 50, 51, 52, 53, 54, 55, 56, 57, 58, 59, 60, 61, 62, 63, 64, 65, 66, 67, 68, 69, 70, 71, 72, 73, 74, 75, 76, 77, 78, 79, 80, 81, 82, 83, 84, 85, 86, 87, 88, 89, 90] rfl
        have hD := D_addr (w1 := wFm aF aN aT aL aO aH aP aX ++ (wSt cI aN u15 ++ (wSt cI aT Rb9 ++ (wHi cS aH ah u16 ++ (wZs cI ah u17))))) hD rfl
        refine lv_iload_n hx hb dX6_come_100 rfl (lv_at hl 0 rfl) ?_
        exact vx_ret (W.widen (k := 1) (n := 6) (Nat.zero_le _) (Nat.zero_le _) (W.iret (v := v14) hx hb hr (fun t ht hW => ⟨⟨v14, (u15, Rb9, u16, u17), rfl, hR, P_at ht hP⟩, hS.F ht⟩) hS.2.2 dX6_come_101))
      · rw [if_neg c_12] at hR
        obtain ⟨sa, hsa⟩ := hXW.1 145 (by decide)
        exact vx_throwS (text := strT 145) (sa := sa) (A := A) (names := ["java/lang/RuntimeException", "java/lang/Exception"]) (cls := "java/lang/IllegalStateException") hx hb hfl hown (by decide) (by decide) (hw_ hts 5 rfl) (hw_ hts 6 rfl) hsa (thr_at3 hXW (fun w h => hts w (List.mem_cons_of_mem _ (List.mem_append_right _ h)))) (by decide +kernel) hU hNs hS (hl.1.trans hml.symm) dX6_come_74 dX6_come_77 dX6_come_78 dX6_come_80 dX6_come_83 (fun x hx => (htab x hx).elim) (Nat.lt_of_sub_pos (Nat.le_of_ble_eq_true rfl)) (Nat.le_of_ble_eq_true rfl) (Nat.le_of_ble_eq_true rfl) (Nat.le_of_ble_eq_true rfl) hlocks (fun t h1 h2 h3 => ⟨(S, Rb9, G, Z), trivial, ⟨(3 : Int32), rfl, by decide, hR, thr_P hP h3⟩, thr_F hS h2 h3⟩) hS.2.2 (Nat.le_of_ble_eq_true rfl) (Nat.le_of_ble_eq_true rfl)
    · rw [if_pos c_6] at hR
      obtain ⟨sa, hsa⟩ := hXW.1 136 (by decide)
      exact vx_throwS (text := strT 136) (sa := sa) (A := A) (names := ["java/lang/RuntimeException", "java/lang/Exception"]) (cls := "java/lang/IllegalArgumentException") hx hb hfl hown (by decide) (by decide) (hw_ hts 3 rfl) (hw_ hts 4 rfl) hsa (thr_at2 hXW (fun w h => hts w (List.mem_cons_of_mem _ (List.mem_append_left _ (List.mem_append_right _ h))))) (by decide +kernel) hU hNs hS (hl.1.trans hml.symm) dX6_come_31 dX6_come_34 dX6_come_35 dX6_come_37 dX6_come_40 (fun x hx => (htab x hx).elim) (Nat.lt_of_sub_pos (Nat.le_of_ble_eq_true rfl)) (Nat.le_of_ble_eq_true rfl) (Nat.le_of_ble_eq_true rfl) (Nat.le_of_ble_eq_true rfl) hlocks (fun t h1 h2 h3 => ⟨(S, R, G, Z), trivial, ⟨(2 : Int32), rfl, by decide, hR, thr_P hP h3⟩, thr_F hS h2 h3⟩) hS.2.2 (Nat.le_of_ble_eq_true rfl) (Nat.le_of_ble_eq_true rfl)
  · rw [if_pos c_3] at hR
    obtain ⟨sa, hsa⟩ := hXW.1 134 (by decide)
    exact vx_throwS (text := strT 134) (sa := sa) (A := A) (names := ["java/lang/RuntimeException", "java/lang/Exception"]) (cls := "java/lang/IndexOutOfBoundsException") hx hb hfl hown (by decide) (by decide) (hw_ hts 1 rfl) (hw_ hts 2 rfl) hsa (thr_at1 hXW (fun w h => hts w (List.mem_cons_of_mem _ (List.mem_append_left _ (List.mem_append_left _ (List.mem_append_right _ h)))))) (by decide +kernel) hU hNs hS (hl.1.trans hml.symm) dX6_come_11 dX6_come_14 dX6_come_15 dX6_come_17 dX6_come_20 (fun x hx => (htab x hx).elim) (Nat.lt_of_sub_pos (Nat.le_of_ble_eq_true rfl)) (Nat.le_of_ble_eq_true rfl) (Nat.le_of_ble_eq_true rfl) (Nat.le_of_ble_eq_true rfl) hlocks (fun t h1 h2 h3 => ⟨(S, R, G, Z), trivial, ⟨(1 : Int32), rfl, by decide, hR, thr_P hP h3⟩, thr_F hS h2 h3⟩) hS.2.2 (Nat.le_of_ble_eq_true rfl) (Nat.le_of_ble_eq_true rfl)
abbrev rm_X6_veto : Room := { frames := 6, cells := 1, slots := 6, locals := 110 }
abbrev x_X6_veto (dC : Nat → ClassId) (dI : Nat → Nat → Nat) (cI cZ cS : ClassId) (aF aN aT aL aO aH : Nat → Nat) (ah : Nat → Nat → Nat) (aP aX : Nat → Nat)  (res : Int32 × Int32 × Pic × Pic × Pic × (Nat → Pic)) (A : Nat → Prop) : String → State → State → Prop := vx_X (fun (_ : Pic × Pic × Pic × (Nat → Pic)) => True) (fun E u t => ∃ c : Int32, exN c = E ∧ ¬ c = 0 ∧ (c, (0 : Int32), u) = res ∧ va_P (dC, dI) vwCl (wFm aF aN aT aL aO aH aP aX ++ (wSt cI aN u.1 ++ (wSt cI aT u.2.1 ++ (wHi cS aH ah u.2.2.1 ++ (wZs cI ah u.2.2.2))))) t.heap) A
abbrev q_X6_veto (dC : Nat → ClassId) (dI : Nat → Nat → Nat) (cI cZ cS : ClassId) (aF aN aT aL aO aH : Nat → Nat) (ah : Nat → Nat → Nat) (aP aX : Nat → Nat)  (res : Int32 × Int32 × Pic × Pic × Pic × (Nat → Pic)) (A : Nat → Prop) : Array Value → State → Outcome → State → Prop := va_Qi (fun (r : Int32) (u : Pic × Pic × Pic × (Nat → Pic)) => ((0 : Int32), r, u) = res) (fun u t => va_P (dC, dI) vwCl (wFm aF aN aT aL aO aH aP aX ++ (wSt cI aN u.1 ++ (wSt cI aT u.2.1 ++ (wHi cS aH ah u.2.2.1 ++ (wZs cI ah u.2.2.2))))) t.heap) A
set_option maxHeartbeats 4000000 in
set_option maxRecDepth 100000 in
theorem met_X6_veto (l : Launch) (hfl : l.stackTraces = false) (dC : Nat → ClassId) (dI : Nat → Nat → Nat) (cI cZ cS : ClassId) (aF aN aT aL aO aH : Nat → Nat) (ah : Nat → Nat → Nat) (aP aX : Nat → Nat) (S : Pic) (R : Pic) (G : Pic) (Z : (Nat → Pic)) (base sz : Nat) (p1 : Int32) (p2 : Int32) : vx_Met l yX6_veto wsX6_veto rm_X6_veto (va_Pc [.ref (aF 0), .int p1, .int p2] (pX (dC, dI) (tyS cI cZ cS) (wFm aF aN aT aL aO aH aP aX ++ (wSt cI aN S ++ (wSt cI aT R ++ (wHi cS aH ah G ++ (wZs cI ah Z))))) base sz)) (q_X6_veto dC dI cI cZ cS aF aN aT aL aO aH ah aP aX (f6_veto S R G Z p1 p2) (va_A (wFm aF aN aT aL aO aH aP aX ++ (wSt cI aN S ++ (wSt cI aT R ++ (wHi cS aH ah G ++ (wZs cI ah Z))))) sz)) (x_X6_veto dC dI cI cZ cS aF aN aT aL aO aH ah aP aX (f6_veto S R G Z p1 p2) (va_A (wFm aF aN aT aL aO aH aP aX ++ (wSt cI aN S ++ (wSt cI aT R ++ (wHi cS aH ah G ++ (wZs cI ah Z))))) sz)) 1 6 (va_A (wFm aF aN aT aL aO aH aP aX ++ (wSt cI aN S ++ (wSt cI aT R ++ (wHi cS aH ah G ++ (wZs cI ah Z))))) sz) := by
  refine vx_ofW (cc := cX6_veto) (maxL := 4) (ret := (some .int)) (by decide) rfl ?_
  intro p e s m args below meth c s₁ B hml htab hv
  obtain ⟨rfl, hsz, hP, hK, hD0, hN, hbs, hXW⟩ := hv
  have hx := B.exec
  have hb := B.bytes
  have hr := B.returns
  have hts := atoms_spec (ws := wsX6_veto) B.pre
  have hown : s.vm.findClass RX6 = some m.cls := findClass_of_methodNamed B.named
  have hlocks := B.notSynchronized
  subst hsz
  have hD := hD0.self (sz := s.heap.size)
  generalize hAe : va_A (wFm aF aN aT aL aO aH aP aX ++ (wSt cI aN S ++ (wSt cI aT R ++ (wHi cS aH ah G ++ (wZs cI ah Z))))) s.heap.size = A at hD ⊢
  have hA : ∀ q : Nat, s.heap.size ≤ q → A q := fun q h => by rw [← hAe]; exact Or.inr h
  have hS : va_S A s.heap s.heap [] := va_S.rf
  have hAb : ∀ q, A q → base ≤ q := fun q h => by rw [← hAe] at h; exact base_of hD0 hbs q h
  have hU := hXW.2.1.narrow hAb
  have hNs := hXW.2.2.1.narrow hAb
  have hP : va_P (dC, dI) vwCl (wFm aF aN aT aL aO aH aP aX ++ (wSt cI aN S ++ (wSt cI aT R ++ (wHi cS aH ah G ++ (wZs cI ah Z))))) s.heap := hP
  generalize hR : f6_veto S R G Z p1 p2 = res
  rw [f6_veto] at hR
  have hin6 : ∀ w ∈ wsX60, w ∈ wsX6_veto := by decide +kernel
  have hin5 : ∀ w ∈ wsX50, w ∈ wsX6_veto := by decide +kernel
  have hl := lv_entry ([.ref (aF 0), .int p1, .int p2]) (n := 4) (Nat.le_of_ble_eq_true rfl)
  rw [lg_entry_eq]
  generalize (lg_sl ([.ref (aF 0), .int p1, .int p2]) ++ List.replicate (4 - (lg_sl ([.ref (aF 0), .int p1, .int p2])).length) Slot.unset).toArray = ls at hl ⊢
  have hl : lv_has ls 4 [(0, .ref (aF 0)), (1, .int p1), (2, .int p2)] := hl
  refine lv_aload_n hx hb dX6_veto_0 rfl (lv_at hl 0 rfl) ?_
  refine va_get (D := (dC, dI)) (ci := 6) (v := .ref (aN 0)) (C := RX6) (T := TX6) (N := 7) hx hb hts hin6 hown hK hP 0 rfl rfl 0 (by decide) (hw_ hts 7 rfl) (fun _ h9 => h9) rfl dX6_veto_1 ?_
  refine lv_iload_n hx hb dX6_veto_4 rfl (lv_at hl 1 rfl) ?_
  refine va_calli (va_runV (As := [.int p1]) (rest := []) ⟨hx, hb, hml, hown, hts⟩ (met_X5_hasGuest l dC dI cI cZ cS aN S s.heap.size p1) (cwV 1 hts gX6_veto_X5_hasGuest rfl rfl rfl (by decide +kernel) ⟨Nat.le_of_ble_eq_true rfl, Nat.le_of_ble_eq_true rfl⟩) (pV (wc := wSt cI aN S) (ci := 5) (q0 := 1) hK hP hD hN [1, 2, 3, 4, 5, 6, 7, 8, 9, 10, 11] rfl (by decide) rfl rfl) rfl rfl hl.1 rfl (lv_room (Nat.le_of_ble_eq_true rfl)) dX6_veto_5 ⟨Nat.zero_le _, Nat.zero_le _⟩) hS (fun q _ h => a0_in hS hA q h) (a0_in hS hA) (fun r1 u t H1 locs ht hvm hw hB hz1 hk1 hS => ?_)
  obtain ⟨hw, nb2⟩ := hw
  subst hw
  have hP := rdk hP hk1
  refine lv_if_ne (tgt := 21) hx hb dX6_veto_8 (by decide) (fun c_3 => ?_) (fun c_3 => ?_)
  · rw [if_neg c_3] at hR
    refine lv_iload_n hx hb dX6_veto_21 rfl (lv_at hl 2 rfl) ?_
    refine lv_iconst (v := (0 : Int32)) hx hb dX6_veto_22 (by decide) ?_
    refine lv_bipush (v := (63 : Int32)) hx hb dX6_veto_23 (by decide) ?_
    refine va_calli (va_runS (As := [.int p2, .int (0 : Int32), .int (63 : Int32)]) (rest := []) ⟨hx, hb, hml, hown, hts⟩ (met_X6_isWithin l dC dI cI cZ cS H1.size p2 (0 : Int32) (63 : Int32)) (va_cwS 3 hts gX6_veto_X6_isWithin rfl rfl rfl (by decide +kernel) ⟨Nat.le_of_ble_eq_true rfl, Nat.le_of_ble_eq_true rfl⟩) (pS (wc := []) hK hP hD hN [] rfl (by decide)) rfl rfl hl.1 rfl (lv_room (Nat.le_of_ble_eq_true rfl)) dX6_veto_25 ⟨Nat.zero_le _, Nat.zero_le _⟩) hS (fun q _ h => a0_in hS hA q h) (a0_in hS hA) (fun r4 u t H2 locs ht hvm hw hB hz1 hk1 hS => ?_)
    obtain ⟨hw, nb5⟩ := hw
    subst hw
    have hP := rdk hP hk1
    refine lv_if_ne (tgt := 41) hx hb dX6_veto_28 (by decide) (fun c_6 => ?_) (fun c_6 => ?_)
    · rw [if_neg c_6] at hR
      refine lv_aload_n hx hb dX6_veto_41 rfl (lv_at hl 0 rfl) ?_
      refine va_get (D := (dC, dI)) (ci := 6) (v := .ref (aT 0)) (C := RX6) (T := TX6) (N := 7) hx hb hts hin6 hown hK hP 0 rfl rfl 1 (by decide) (hw_ hts 8 rfl) (fun _ h9 => h9) rfl dX6_veto_42 ?_
      refine lv_aload_n hx hb dX6_veto_45 rfl (lv_at hl 0 rfl) ?_
      refine va_get (D := (dC, dI)) (ci := 6) (v := .ref (aN 0)) (C := RX6) (T := TX6) (N := 7) hx hb hts hin6 hown hK hP 0 rfl rfl 0 (by decide) (hw_ hts 7 rfl) (fun _ h9 => h9) rfl dX6_veto_46 ?_
      have hF := va_free (wc := wSt cI aT R ++ (wSt cI aN S)) hD hS hA [12, 13, 14, 15, 16, 17, 18, 19, 20, 21, 22, 1, 2, 3, 4, 5, 6, 7, 8, 9, 10, 11] rfl
      refine va_callv (va_runV (As := [.ref (aN 0)]) (rest := []) ⟨hx, hb, hml, hown, hts⟩ (met_X5_copyFrom l dC dI cI cZ cS aT aN R S H2.size) (cwV 1 hts gX6_veto_X5_copyFrom rfl rfl rfl (by decide +kernel) ⟨Nat.le_of_ble_eq_true rfl, Nat.le_of_ble_eq_true rfl⟩) (pV (wc := wSt cI aT R ++ (wSt cI aN S)) (ci := 5) (q0 := 12) hK hP hD hN [12, 13, 14, 15, 16, 17, 18, 19, 20, 21, 22, 1, 2, 3, 4, 5, 6, 7, 8, 9, 10, 11] rfl (by decide) rfl rfl) rfl rfl hl.1 rfl (lv_room (Nat.le_of_ble_eq_true rfl)) dX6_veto_49 ⟨Nat.zero_le _, Nat.zero_le _⟩) hS (fun q _ h => hF q h) hF (fun  u7 t H3 locs ht hvm hw hB hz1 hk1 hS => ?_)
      try dsimp only at hw hB
      rw [ht] at hB
      have hR := bd_n hw hR
      have hP := wrk2 (w2 := wFm aF aN aT aL aO aH aP aX ++ (wSt cI aN S ++ (wSt cI aT u7 ++ (wHi cS aH ah G ++ (wZs cI ah Z))))) (wr := wFm aF aN aT aL aO aH aP aX ++ (wHi cS aH ah G ++ (wZs cI ah Z))) hP hD [12, 13, 14, 15, 16, 17, 18, 19, 20, 21, 22, 1, 2, 3, 4, 5, 6, 7, 8, 9, 10, 11] [0, 23, 24, 25, 26, 27, 28, 29, 30, 31, 32, 33, 34, 35, 36, 37, 38, 39, 40, 41, 42, 43, 44, 45, 46, 47, 48, 49, 50, 51, 52, 53, 54, 55, 56, 57, 58, 59, 60, 61, 62, 63, 64, 65, 66, 67, 68, 69, 70, 71, 72, 73, 74, 75, 76, 77, 78, 79, 80, 81, 82, 83, 84, 85, 86, 87, 88, 89, 90] rfl rfl (by decide) hk1 hB [0, 80, 81, 82, 83, 84, 85, 86, 87, 88, 89, 90, 69, 70, 71, 72, 73, 74, 75, 76, 77, 78, 79, 1, 2, 3, 4, 5, 6, 7, 8, 9, 10, 11, 12, 13, 14, 15, 16, 17, 18, 19, 20, 21, 22, 23, 24, 25, 26, 27, 28, 29, 30, 31, 32, 33, 34, 35, 36, 37, 38, 39, 40, 41, 42, 43, 44, 45, 46, 47, 48, 49, 50, 51, 52, 53, 54, 55, 56, 57, 58, 59, 60, 61, 62, 63, 64, 65, 66, 67, 68] rfl
      have hD := D_addr (w1 := wFm aF aN aT aL aO aH aP aX ++ (wSt cI aN S ++ (wSt cI aT u7 ++ (wHi cS aH ah G ++ (wZs cI ah Z))))) hD rfl
      refine lv_aload_n hx hb dX6_veto_52 rfl (lv_at hl 0 rfl) ?_
      refine va_get (D := (dC, dI)) (ci := 6) (v := .ref (aT 0)) (C := RX6) (T := TX6) (N := 7) hx hb hts hin6 hown hK hP 0 rfl rfl 1 (by decide) (hw_ hts 8 rfl) (fun _ h9 => h9) rfl dX6_veto_53 ?_
      refine va_get (D := (dC, dI)) (ci := 5) (v := .ref (aT 9)) (C := RX5) (T := TX5) (N := 12) hx hb hts hin5 hown hK hP 12 rfl rfl 9 (by decide) (hw_ hts 9 rfl) (fun _ h9 => h9) rfl dX6_veto_56 ?_
      refine lv_iload_n hx hb dX6_veto_59 rfl (lv_at hl 1 rfl) ?_
      refine lv_iload_n hx hb dX6_veto_60 rfl (lv_at hl 2 rfl) ?_
      have hF := va_free (wc := [((aT 9), .inl (cI, 6, .inl (u7 9)))]) hD hS hA [20] rfl
      refine va_callv (va_runS (As := [.ref (aT 9), .int p1, .int p2]) (rest := []) ⟨hx, hb, hml, hown, hts⟩ (met_X6_put l dC dI cI cZ cS (aT 9) 6 (by decide) (u7 9) H3.size p1 p2) (va_cwS 3 hts gX6_veto_X6_put rfl rfl rfl (by decide +kernel) ⟨Nat.le_of_ble_eq_true rfl, Nat.le_of_ble_eq_true rfl⟩) (pS (wc := [((aT 9), .inl (cI, 6, .inl (u7 9)))]) hK hP hD hN [20] rfl (by decide)) rfl rfl hl.1 rfl (lv_room (Nat.le_of_ble_eq_true rfl)) dX6_veto_61 ⟨Nat.zero_le _, Nat.zero_le _⟩) hS (fun q _ h => hF q h) hF (fun  u8 t H4 locs ht hvm hw hB hz1 hk1 hS => ?_)
      try dsimp only at hw hB
      rw [ht] at hB
      subst hw
      have hP := wrk (w2 := wFm aF aN aT aL aO aH aP aX ++ (wSt cI aN S ++ (wSt cI aT (pset u7 9 (f6_put 6 (u7 9) p1 p2)) ++ (wHi cS aH ah G ++ (wZs cI ah Z))))) hP hD [20] rfl (by decide) hk1 hB rfl rfl
      have hD := D_addr (w1 := wFm aF aN aT aL aO aH aP aX ++ (wSt cI aN S ++ (wSt cI aT (pset u7 9 (f6_put 6 (u7 9) p1 p2)) ++ (wHi cS aH ah G ++ (wZs cI ah Z))))) hD rfl
      obtain ⟨Rb9, hRb9⟩ : ∃ z : Pic, z = (pset u7 9 (f6_put 6 (u7 9) p1 p2)) := ⟨_, rfl⟩
      rw [← hRb9] at hP hD
      have hR := bd_n hRb9 hR
      refine lv_aload_n hx hb dX6_veto_64 rfl (lv_at hl 0 rfl) ?_
      refine va_get (D := (dC, dI)) (ci := 6) (v := .ref (aT 0)) (C := RX6) (T := TX6) (N := 7) hx hb hts hin6 hown hK hP 0 rfl rfl 1 (by decide) (hw_ hts 8 rfl) (fun _ h9 => h9) rfl dX6_veto_65 ?_
      refine va_calli (va_runV (As := []) (rest := []) ⟨hx, hb, hml, hown, hts⟩ (met_X5_hasVetoedDish l dC dI cI cZ cS aT Rb9 H4.size) (cwV 0 hts gX6_veto_X5_hasVetoedDish rfl rfl rfl (by decide +kernel) ⟨Nat.le_of_ble_eq_true rfl, Nat.le_of_ble_eq_true rfl⟩) (pV (wc := wSt cI aT Rb9) (ci := 5) (q0 := 12) hK hP hD hN [12, 13, 14, 15, 16, 17, 18, 19, 20, 21, 22] rfl (by decide) rfl rfl) rfl rfl hl.1 rfl (lv_room (Nat.le_of_ble_eq_true rfl)) dX6_veto_68 ⟨Nat.zero_le _, Nat.zero_le _⟩) hS (fun q _ h => a0_in hS hA q h) (a0_in hS hA) (fun r10 u t H5 locs ht hvm hw hB hz1 hk1 hS => ?_)
      obtain ⟨hw, nb11⟩ := hw
      have hR := bd_n hw hR
      have hP := rdk hP hk1
      refine lv_if_eq (tgt := 84) hx hb dX6_veto_71 (by decide) (fun c_12 => ?_) (fun c_12 => ?_)
      · rw [if_pos c_12] at hR
        refine lv_aload_n hx hb dX6_veto_84 rfl (lv_at hl 0 rfl) ?_
        refine va_get (D := (dC, dI)) (ci := 6) (v := .ref (aN 0)) (C := RX6) (T := TX6) (N := 7) hx hb hts hin6 hown hK hP 0 rfl rfl 0 (by decide) (hw_ hts 7 rfl) (fun _ h9 => h9) rfl dX6_veto_85 ?_
        refine va_get (D := (dC, dI)) (ci := 5) (v := .ref (aN 9)) (C := RX5) (T := TX5) (N := 12) hx hb hts hin5 hown hK hP 1 rfl rfl 9 (by decide) (hw_ hts 9 rfl) (fun _ h9 => h9) rfl dX6_veto_88 ?_
        refine lv_iload_n hx hb dX6_veto_91 rfl (lv_at hl 1 rfl) ?_
        refine va_calli (va_runS (As := [.ref (aN 9), .int p1]) (rest := []) ⟨hx, hb, hml, hown, hts⟩ (met_X6_at l dC dI cI cZ cS (aN 9) 6 (by decide) (S 9) H5.size p1) (va_cwS 2 hts gX6_veto_X6_at rfl rfl rfl (by decide +kernel) ⟨Nat.le_of_ble_eq_true rfl, Nat.le_of_ble_eq_true rfl⟩) (pS (wc := [((aN 9), .inl (cI, 6, .inl (S 9)))]) hK hP hD hN [9] rfl (by decide)) rfl rfl hl.1 rfl (lv_room (Nat.le_of_ble_eq_true rfl)) dX6_veto_92 ⟨Nat.zero_le _, Nat.zero_le _⟩) hS (fun q _ h => a0_in hS hA q h) (a0_in hS hA) (fun r13 u t H6 locs ht hvm hw hB hz1 hk1 hS => ?_)
        subst hw
        have hP := rdk hP hk1
        refine lv_topi (fun v14 hv14 => ?_)
        have hR := bd_n hv14 hR
        refine lv_istore_n (lv' := [(3, .int v14), (0, .ref (aF 0)), (1, .int p1), (2, .int p2)]) hx hb dX6_veto_95 rfl hl (by decide) rfl (fun ls hl => ?_)
        refine lv_aload_n hx hb dX6_veto_96 rfl (lv_at hl 1 rfl) ?_
        have hF := va_free (wc := wFm aF aN aT aL aO aH aP aX ++ (wSt cI aN S ++ (wSt cI aT Rb9 ++ (wHi cS aH ah G ++ (wZs cI ah Z))))) hD hS hA [0, 1, 2, 3, 4, 5, 6, 7, 8, 9, 10, 11, 12, 13, 14, 15, 16, 17, 18, 19, 20, 21, 22, 23, 24, 25, 26, 27, 28, 29, 30, 31, 32, 33, 34, 35, 36, 37, 38, 39, 40, 41, 42, 43, 44, 45, 46, 47, 48, 49, 50, 51, 52, 53, 54, 55, 56, 57, 58, 59, 60, 61, 62, 63, 64, 65, 66, 67, 68, 69, 70, 71, 72, 73, 74, 75, 76, 77, 78, 79, 80, 81, 82, 83, 84, 85, 86, 87, 88, 89, 90] rfl
        refine va_callv (va_runV (As := []) (rest := []) ⟨hx, hb, hml, hown, hts⟩ (met_X6_takeOverTrial l dC dI cI cZ cS aF aN aT aL aO aH ah aP aX S Rb9 G Z H6.size) (cwV 0 hts gX6_veto_X6_takeOverTrial rfl rfl rfl (by decide +kernel) ⟨Nat.le_of_ble_eq_true rfl, Nat.le_of_ble_eq_true rfl⟩) (pV (wc := wFm aF aN aT aL aO aH aP aX ++ (wSt cI aN S ++ (wSt cI aT Rb9 ++ (wHi cS aH ah G ++ (wZs cI ah Z))))) (ci := 6) (q0 := 0) hK hP hD hN [0, 1, 2, 3, 4, 5, 6, 7, 8, 9, 10, 11, 12, 13, 14, 15, 16, 17, 18, 19, 20, 21, 22, 23, 24, 25, 26, 27, 28, 29, 30, 31, 32, 33, 34, 35, 36, 37, 38, 39, 40, 41, 42, 43, 44, 45, 46, 47, 48, 49, 50, 51, 52, 53, 54, 55, 56, 57, 58, 59, 60, 61, 62, 63, 64, 65, 66, 67, 68, 69, 70, 71, 72, 73, 74, 75, 76, 77, 78, 79, 80, 81, 82, 83, 84, 85, 86, 87, 88, 89, 90] rfl (by decide) rfl rfl) rfl rfl hl.1 rfl (lv_room (Nat.le_of_ble_eq_true rfl)) dX6_veto_97 ⟨Nat.zero_le _, Nat.zero_le _⟩) hS (fun q _ h => hF q h) hF (fun  u t H7 locs ht hvm hw hB hz1 hk1 hS => ?_)
        obtain ⟨u15, u16, u17⟩ := u
        try dsimp only at hw hB
        rw [ht] at hB
        have hR := bd3_n hw hR
        have hP := wrk2 (w2 := wFm aF aN aT aL aO aH aP aX ++ (wSt cI aN u15 ++ (wSt cI aT Rb9 ++ (wHi cS aH ah u16 ++ (wZs cI ah u17))))) (wr := []) hP hD [0, 1, 2, 3, 4, 5, 6, 7, 8, 9, 10, 11, 12, 13, 14, 15, 16, 17, 18, 19, 20, 21, 22, 23, 24, 25, 26, 27, 28, 29, 30, 31, 32, 33, 34, 35, 36, 37, 38, 39, 40, 41, 42, 43, 44, 45, 46, 47, 48, 49, 50, 51, 52, 53, 54, 55, 56, 57, 58, 59, 60, 61, 62, 63, 64, 65, 66, 67, 68, 69, 70, 71, 72, 73, 74, 75, 76, 77, 78, 79, 80, 81, 82, 83, 84, 85, 86, 87, 88, 89, 90] [] rfl rfl (by decide) hk1 hB [0, 1, 2, 3, 4, 5, 6, 7, 8, 9, 10, 11, 12, 13, 14, 15, 16, 17, 18, 19, 20, 21, 22, 23, 24, 25, 26, 27, 28, 29, 30, 31, 32, 33, 34, 35, 36, 37, 38, 39, 40, 41, 42, 43, 44, 45, 46, 47, 48, 49, 50, 51, 52, 53, 54, 55, 56, 57, 58, 59, 60, 61, 62, 63, 64, 65, 66, 67, 68, 69, 70, 71, 72, 73, 74, 75, 76, 77, 78, 79, 80, 81, 82, 83, 84, 85, 86, 87, 88, 89, 90] rfl
        have hD := D_addr (w1 := wFm aF aN aT aL aO aH aP aX ++ (wSt cI aN u15 ++ (wSt cI aT Rb9 ++ (wHi cS aH ah u16 ++ (wZs cI ah u17))))) hD rfl
        refine lv_iload_n hx hb dX6_veto_100 rfl (lv_at hl 0 rfl) ?_
        exact vx_ret (W.widen (k := 1) (n := 6) (Nat.zero_le _) (Nat.zero_le _) (W.iret (v := v14) hx hb hr (fun t ht hW => ⟨⟨v14, (u15, Rb9, u16, u17), rfl, hR, P_at ht hP⟩, hS.F ht⟩) hS.2.2 dX6_veto_101))
      · rw [if_neg c_12] at hR
        obtain ⟨sa, hsa⟩ := hXW.1 145 (by decide)
        exact vx_throwS (text := strT 145) (sa := sa) (A := A) (names := ["java/lang/RuntimeException", "java/lang/Exception"]) (cls := "java/lang/IllegalStateException") hx hb hfl hown (by decide) (by decide) (hw_ hts 5 rfl) (hw_ hts 6 rfl) hsa (thr_at3 hXW (fun w h => hts w (List.mem_cons_of_mem _ (List.mem_append_right _ h)))) (by decide +kernel) hU hNs hS (hl.1.trans hml.symm) dX6_veto_74 dX6_veto_77 dX6_veto_78 dX6_veto_80 dX6_veto_83 (fun x hx => (htab x hx).elim) (Nat.lt_of_sub_pos (Nat.le_of_ble_eq_true rfl)) (Nat.le_of_ble_eq_true rfl) (Nat.le_of_ble_eq_true rfl) (Nat.le_of_ble_eq_true rfl) hlocks (fun t h1 h2 h3 => ⟨(S, Rb9, G, Z), trivial, ⟨(3 : Int32), rfl, by decide, hR, thr_P hP h3⟩, thr_F hS h2 h3⟩) hS.2.2 (Nat.le_of_ble_eq_true rfl) (Nat.le_of_ble_eq_true rfl)
    · rw [if_pos c_6] at hR
      obtain ⟨sa, hsa⟩ := hXW.1 147 (by decide)
      exact vx_throwS (text := strT 147) (sa := sa) (A := A) (names := ["java/lang/RuntimeException", "java/lang/Exception"]) (cls := "java/lang/IllegalArgumentException") hx hb hfl hown (by decide) (by decide) (hw_ hts 3 rfl) (hw_ hts 4 rfl) hsa (thr_at2 hXW (fun w h => hts w (List.mem_cons_of_mem _ (List.mem_append_left _ (List.mem_append_right _ h))))) (by decide +kernel) hU hNs hS (hl.1.trans hml.symm) dX6_veto_31 dX6_veto_34 dX6_veto_35 dX6_veto_37 dX6_veto_40 (fun x hx => (htab x hx).elim) (Nat.lt_of_sub_pos (Nat.le_of_ble_eq_true rfl)) (Nat.le_of_ble_eq_true rfl) (Nat.le_of_ble_eq_true rfl) (Nat.le_of_ble_eq_true rfl) hlocks (fun t h1 h2 h3 => ⟨(S, R, G, Z), trivial, ⟨(2 : Int32), rfl, by decide, hR, thr_P hP h3⟩, thr_F hS h2 h3⟩) hS.2.2 (Nat.le_of_ble_eq_true rfl) (Nat.le_of_ble_eq_true rfl)
  · rw [if_pos c_3] at hR
    obtain ⟨sa, hsa⟩ := hXW.1 134 (by decide)
    exact vx_throwS (text := strT 134) (sa := sa) (A := A) (names := ["java/lang/RuntimeException", "java/lang/Exception"]) (cls := "java/lang/IndexOutOfBoundsException") hx hb hfl hown (by decide) (by decide) (hw_ hts 1 rfl) (hw_ hts 2 rfl) hsa (thr_at1 hXW (fun w h => hts w (List.mem_cons_of_mem _ (List.mem_append_left _ (List.mem_append_left _ (List.mem_append_right _ h)))))) (by decide +kernel) hU hNs hS (hl.1.trans hml.symm) dX6_veto_11 dX6_veto_14 dX6_veto_15 dX6_veto_17 dX6_veto_20 (fun x hx => (htab x hx).elim) (Nat.lt_of_sub_pos (Nat.le_of_ble_eq_true rfl)) (Nat.le_of_ble_eq_true rfl) (Nat.le_of_ble_eq_true rfl) (Nat.le_of_ble_eq_true rfl) hlocks (fun t h1 h2 h3 => ⟨(S, R, G, Z), trivial, ⟨(1 : Int32), rfl, by decide, hR, thr_P hP h3⟩, thr_F hS h2 h3⟩) hS.2.2 (Nat.le_of_ble_eq_true rfl) (Nat.le_of_ble_eq_true rfl)
abbrev rm_X6_set : Room := { frames := 6, cells := 1, slots := 6, locals := 110 }
abbrev x_X6_set (dC : Nat → ClassId) (dI : Nat → Nat → Nat) (cI cZ cS : ClassId) (aF aN aT aL aO aH : Nat → Nat) (ah : Nat → Nat → Nat) (aP aX : Nat → Nat)  (res : Int32 × Int32 × Pic × Pic × Pic × (Nat → Pic)) (A : Nat → Prop) : String → State → State → Prop := vx_X (fun (_ : Pic × Pic × Pic × (Nat → Pic)) => True) (fun E u t => ∃ c : Int32, exN c = E ∧ ¬ c = 0 ∧ (c, (0 : Int32), u) = res ∧ va_P (dC, dI) vwCl (wFm aF aN aT aL aO aH aP aX ++ (wSt cI aN u.1 ++ (wSt cI aT u.2.1 ++ (wHi cS aH ah u.2.2.1 ++ (wZs cI ah u.2.2.2))))) t.heap) A
abbrev q_X6_set (dC : Nat → ClassId) (dI : Nat → Nat → Nat) (cI cZ cS : ClassId) (aF aN aT aL aO aH : Nat → Nat) (ah : Nat → Nat → Nat) (aP aX : Nat → Nat)  (res : Int32 × Int32 × Pic × Pic × Pic × (Nat → Pic)) (A : Nat → Prop) : Array Value → State → Outcome → State → Prop := va_Qi (fun (r : Int32) (u : Pic × Pic × Pic × (Nat → Pic)) => ((0 : Int32), r, u) = res) (fun u t => va_P (dC, dI) vwCl (wFm aF aN aT aL aO aH aP aX ++ (wSt cI aN u.1 ++ (wSt cI aT u.2.1 ++ (wHi cS aH ah u.2.2.1 ++ (wZs cI ah u.2.2.2))))) t.heap) A
set_option maxHeartbeats 4000000 in
set_option maxRecDepth 100000 in
theorem met_X6_set (l : Launch) (hfl : l.stackTraces = false) (dC : Nat → ClassId) (dI : Nat → Nat → Nat) (cI cZ cS : ClassId) (aF aN aT aL aO aH : Nat → Nat) (ah : Nat → Nat → Nat) (aP aX : Nat → Nat) (S : Pic) (R : Pic) (G : Pic) (Z : (Nat → Pic)) (base sz : Nat) (p1 : Int32) (p2 : Int32) : vx_Met l yX6_set wsX6_set rm_X6_set (va_Pc [.ref (aF 0), .int p1, .int p2] (pX (dC, dI) (tyS cI cZ cS) (wFm aF aN aT aL aO aH aP aX ++ (wSt cI aN S ++ (wSt cI aT R ++ (wHi cS aH ah G ++ (wZs cI ah Z))))) base sz)) (q_X6_set dC dI cI cZ cS aF aN aT aL aO aH ah aP aX (f6_set S R G Z p1 p2) (va_A (wFm aF aN aT aL aO aH aP aX ++ (wSt cI aN S ++ (wSt cI aT R ++ (wHi cS aH ah G ++ (wZs cI ah Z))))) sz)) (x_X6_set dC dI cI cZ cS aF aN aT aL aO aH ah aP aX (f6_set S R G Z p1 p2) (va_A (wFm aF aN aT aL aO aH aP aX ++ (wSt cI aN S ++ (wSt cI aT R ++ (wHi cS aH ah G ++ (wZs cI ah Z))))) sz)) 1 6 (va_A (wFm aF aN aT aL aO aH aP aX ++ (wSt cI aN S ++ (wSt cI aT R ++ (wHi cS aH ah G ++ (wZs cI ah Z))))) sz) := by
  refine vx_ofW (cc := cX6_set) (maxL := 4) (ret := (some .int)) (by decide) rfl ?_
  intro p e s m args below meth c s₁ B hml htab hv
  obtain ⟨rfl, hsz, hP, hK, hD0, hN, hbs, hXW⟩ := hv
  have hx := B.exec
  have hb := B.bytes
  have hr := B.returns
  have hts := atoms_spec (ws := wsX6_set) B.pre
  have hown : s.vm.findClass RX6 = some m.cls := findClass_of_methodNamed B.named
  have hlocks := B.notSynchronized
  subst hsz
  have hD := hD0.self (sz := s.heap.size)
  generalize hAe : va_A (wFm aF aN aT aL aO aH aP aX ++ (wSt cI aN S ++ (wSt cI aT R ++ (wHi cS aH ah G ++ (wZs cI ah Z))))) s.heap.size = A at hD ⊢
  have hA : ∀ q : Nat, s.heap.size ≤ q → A q := fun q h => by rw [← hAe]; exact Or.inr h
  have hS : va_S A s.heap s.heap [] := va_S.rf
  have hAb : ∀ q, A q → base ≤ q := fun q h => by rw [← hAe] at h; exact base_of hD0 hbs q h
  have hU := hXW.2.1.narrow hAb
  have hNs := hXW.2.2.1.narrow hAb
  have hP : va_P (dC, dI) vwCl (wFm aF aN aT aL aO aH aP aX ++ (wSt cI aN S ++ (wSt cI aT R ++ (wHi cS aH ah G ++ (wZs cI ah Z))))) s.heap := hP
  generalize hR : f6_set S R G Z p1 p2 = res
  rw [f6_set] at hR
  have hin6 : ∀ w ∈ wsX60, w ∈ wsX6_set := by decide +kernel
  have hin5 : ∀ w ∈ wsX50, w ∈ wsX6_set := by decide +kernel
  have hl := lv_entry ([.ref (aF 0), .int p1, .int p2]) (n := 4) (Nat.le_of_ble_eq_true rfl)
  rw [lg_entry_eq]
  generalize (lg_sl ([.ref (aF 0), .int p1, .int p2]) ++ List.replicate (4 - (lg_sl ([.ref (aF 0), .int p1, .int p2])).length) Slot.unset).toArray = ls at hl ⊢
  have hl : lv_has ls 4 [(0, .ref (aF 0)), (1, .int p1), (2, .int p2)] := hl
  refine lv_iload_n hx hb dX6_set_0 rfl (lv_at hl 1 rfl) ?_
  refine lv_iconst (v := (0 : Int32)) hx hb dX6_set_1 (by decide) ?_
  refine lv_iconst (v := (2 : Int32)) hx hb dX6_set_2 (by decide) ?_
  refine va_calli (va_runS (As := [.int p1, .int (0 : Int32), .int (2 : Int32)]) (rest := []) ⟨hx, hb, hml, hown, hts⟩ (met_X6_isWithin l dC dI cI cZ cS s.heap.size p1 (0 : Int32) (2 : Int32)) (va_cwS 3 hts gX6_set_X6_isWithin rfl rfl rfl (by decide +kernel) ⟨Nat.le_of_ble_eq_true rfl, Nat.le_of_ble_eq_true rfl⟩) (pS (wc := []) hK hP hD hN [] rfl (by decide)) rfl rfl hl.1 rfl (lv_room (Nat.le_of_ble_eq_true rfl)) dX6_set_3 ⟨Nat.zero_le _, Nat.zero_le _⟩) hS (fun q _ h => a0_in hS hA q h) (a0_in hS hA) (fun r1 u t H1 locs ht hvm hw hB hz1 hk1 hS => ?_)
  obtain ⟨hw, nb2⟩ := hw
  subst hw
  have hP := rdk hP hk1
  refine lv_if_ne (tgt := 19) hx hb dX6_set_6 (by decide) (fun c_3 => ?_) (fun c_3 => ?_)
  · rw [if_neg c_3] at hR
    refine lv_iload_n hx hb dX6_set_19 rfl (lv_at hl 2 rfl) ?_
    refine lv_iload_n hx hb dX6_set_20 rfl (lv_at hl 1 rfl) ?_
    refine va_calli (va_runS (As := [.int p1]) (rest := [.int p2]) ⟨hx, hb, hml, hown, hts⟩ (met_X6_leastValue l dC dI cI cZ cS H1.size p1) (va_cwS 1 hts gX6_set_X6_leastValue rfl rfl rfl (by decide +kernel) ⟨Nat.le_of_ble_eq_true rfl, Nat.le_of_ble_eq_true rfl⟩) (pS (wc := []) hK hP hD hN [] rfl (by decide)) rfl rfl hl.1 rfl (lv_room (Nat.le_of_ble_eq_true rfl)) dX6_set_21 ⟨Nat.zero_le _, Nat.zero_le _⟩) hS (fun q _ h => a0_in hS hA q h) (a0_in hS hA) (fun r4 u t H2 locs ht hvm hw hB hz1 hk1 hS => ?_)
    subst hw
    have hP := rdk hP hk1
    refine lv_iload_n hx hb dX6_set_24 rfl (lv_at hl 1 rfl) ?_
    refine va_calli (va_runS (As := [.int p1]) (rest := [.int (f6_leastValue p1), .int p2]) ⟨hx, hb, hml, hown, hts⟩ (met_X6_greatestValue l dC dI cI cZ cS H2.size p1) (va_cwS 1 hts gX6_set_X6_greatestValue rfl rfl rfl (by decide +kernel) ⟨Nat.le_of_ble_eq_true rfl, Nat.le_of_ble_eq_true rfl⟩) (pS (wc := []) hK hP hD hN [] rfl (by decide)) rfl rfl hl.1 rfl (lv_room (Nat.le_of_ble_eq_true rfl)) dX6_set_25 ⟨Nat.zero_le _, Nat.zero_le _⟩) hS (fun q _ h => a0_in hS hA q h) (a0_in hS hA) (fun r5 u t H3 locs ht hvm hw hB hz1 hk1 hS => ?_)
    subst hw
    have hP := rdk hP hk1
    refine va_calli (va_runS (As := [.int p2, .int (f6_leastValue p1), .int (f6_greatestValue p1)]) (rest := []) ⟨hx, hb, hml, hown, hts⟩ (met_X6_isWithin l dC dI cI cZ cS H3.size p2 (f6_leastValue p1) (f6_greatestValue p1)) (va_cwS 3 hts gX6_set_X6_isWithin rfl rfl rfl (by decide +kernel) ⟨Nat.le_of_ble_eq_true rfl, Nat.le_of_ble_eq_true rfl⟩) (pS (wc := []) hK hP hD hN [] rfl (by decide)) rfl rfl hl.1 rfl (lv_room (Nat.le_of_ble_eq_true rfl)) dX6_set_28 ⟨Nat.zero_le _, Nat.zero_le _⟩) hS (fun q _ h => a0_in hS hA q h) (a0_in hS hA) (fun r6 u t H4 locs ht hvm hw hB hz1 hk1 hS => ?_)
    obtain ⟨hw, nb7⟩ := hw
    subst hw
    have hP := rdk hP hk1
    refine lv_if_ne (tgt := 44) hx hb dX6_set_31 (by decide) (fun c_8 => ?_) (fun c_8 => ?_)
    · rw [if_neg c_8] at hR
      refine lv_aload_n hx hb dX6_set_44 rfl (lv_at hl 0 rfl) ?_
      refine va_get (D := (dC, dI)) (ci := 6) (v := .ref (aT 0)) (C := RX6) (T := TX6) (N := 7) hx hb hts hin6 hown hK hP 0 rfl rfl 1 (by decide) (hw_ hts 7 rfl) (fun _ h9 => h9) rfl dX6_set_45 ?_
      refine lv_aload_n hx hb dX6_set_48 rfl (lv_at hl 0 rfl) ?_
      refine va_get (D := (dC, dI)) (ci := 6) (v := .ref (aN 0)) (C := RX6) (T := TX6) (N := 7) hx hb hts hin6 hown hK hP 0 rfl rfl 0 (by decide) (hw_ hts 8 rfl) (fun _ h9 => h9) rfl dX6_set_49 ?_
      have hF := va_free (wc := wSt cI aT R ++ (wSt cI aN S)) hD hS hA [12, 13, 14, 15, 16, 17, 18, 19, 20, 21, 22, 1, 2, 3, 4, 5, 6, 7, 8, 9, 10, 11] rfl
      refine va_callv (va_runV (As := [.ref (aN 0)]) (rest := []) ⟨hx, hb, hml, hown, hts⟩ (met_X5_copyFrom l dC dI cI cZ cS aT aN R S H4.size) (cwV 1 hts gX6_set_X5_copyFrom rfl rfl rfl (by decide +kernel) ⟨Nat.le_of_ble_eq_true rfl, Nat.le_of_ble_eq_true rfl⟩) (pV (wc := wSt cI aT R ++ (wSt cI aN S)) (ci := 5) (q0 := 12) hK hP hD hN [12, 13, 14, 15, 16, 17, 18, 19, 20, 21, 22, 1, 2, 3, 4, 5, 6, 7, 8, 9, 10, 11] rfl (by decide) rfl rfl) rfl rfl hl.1 rfl (lv_room (Nat.le_of_ble_eq_true rfl)) dX6_set_52 ⟨Nat.zero_le _, Nat.zero_le _⟩) hS (fun q _ h => hF q h) hF (fun  u9 t H5 locs ht hvm hw hB hz1 hk1 hS => ?_)
      try dsimp only at hw hB
      rw [ht] at hB
      have hR := bd_n hw hR
      have hP := wrk2 (w2 := wFm aF aN aT aL aO aH aP aX ++ (wSt cI aN S ++ (wSt cI aT u9 ++ (wHi cS aH ah G ++ (wZs cI ah Z))))) (wr := wFm aF aN aT aL aO aH aP aX ++ (wHi cS aH ah G ++ (wZs cI ah Z))) hP hD [12, 13, 14, 15, 16, 17, 18, 19, 20, 21, 22, 1, 2, 3, 4, 5, 6, 7, 8, 9, 10, 11] [0, 23, 24, 25, 26, 27, 28, 29, 30, 31, 32, 33, 34, 35, 36, 37, 38, 39, 40, 41, 42, 43, 44, 45, 46, 47, 48, 49, 50, 51, 52, 53, 54, 55, 56, 57, 58, 59, 60, 61, 62, 63, 64, 65, 66, 67, 68, 69, 70, 71, 72, 73, 74, 75, 76, 77, 78, 79, 80, 81, 82, 83, 84, 85, 86, 87, 88, 89, 90] rfl rfl (by decide) hk1 hB [0, 80, 81, 82, 83, 84, 85, 86, 87, 88, 89, 90, 69, 70, 71, 72, 73, 74, 75, 76, 77, 78, 79, 1, 2, 3, 4, 5, 6, 7, 8, 9, 10, 11, 12, 13, 14, 15, 16, 17, 18, 19, 20, 21, 22, 23, 24, 25, 26, 27, 28, 29, 30, 31, 32, 33, 34, 35, 36, 37, 38, 39, 40, 41, 42, 43, 44, 45, 46, 47, 48, 49, 50, 51, 52, 53, 54, 55, 56, 57, 58, 59, 60, 61, 62, 63, 64, 65, 66, 67, 68] rfl
      have hD := D_addr (w1 := wFm aF aN aT aL aO aH aP aX ++ (wSt cI aN S ++ (wSt cI aT u9 ++ (wHi cS aH ah G ++ (wZs cI ah Z))))) hD rfl
      refine lv_aload_n hx hb dX6_set_55 rfl (lv_at hl 0 rfl) ?_
      refine va_get (D := (dC, dI)) (ci := 6) (v := .ref (aT 0)) (C := RX6) (T := TX6) (N := 7) hx hb hts hin6 hown hK hP 0 rfl rfl 1 (by decide) (hw_ hts 7 rfl) (fun _ h9 => h9) rfl dX6_set_56 ?_
      refine va_get (D := (dC, dI)) (ci := 5) (v := .ref (aT 10)) (C := RX5) (T := TX5) (N := 12) hx hb hts hin5 hown hK hP 12 rfl rfl 10 (by decide) (hw_ hts 9 rfl) (fun _ h9 => h9) rfl dX6_set_59 ?_
      refine lv_iload_n hx hb dX6_set_62 rfl (lv_at hl 1 rfl) ?_
      refine lv_iload_n hx hb dX6_set_63 rfl (lv_at hl 2 rfl) ?_
      have hF := va_free (wc := [((aT 10), .inl (cI, 3, .inl (u9 10)))]) hD hS hA [21] rfl
      refine va_callv (va_runS (As := [.ref (aT 10), .int p1, .int p2]) (rest := []) ⟨hx, hb, hml, hown, hts⟩ (met_X6_put l dC dI cI cZ cS (aT 10) 3 (by decide) (u9 10) H5.size p1 p2) (va_cwS 3 hts gX6_set_X6_put rfl rfl rfl (by decide +kernel) ⟨Nat.le_of_ble_eq_true rfl, Nat.le_of_ble_eq_true rfl⟩) (pS (wc := [((aT 10), .inl (cI, 3, .inl (u9 10)))]) hK hP hD hN [21] rfl (by decide)) rfl rfl hl.1 rfl (lv_room (Nat.le_of_ble_eq_true rfl)) dX6_set_64 ⟨Nat.zero_le _, Nat.zero_le _⟩) hS (fun q _ h => hF q h) hF (fun  u10 t H6 locs ht hvm hw hB hz1 hk1 hS => ?_)
      try dsimp only at hw hB
      rw [ht] at hB
      subst hw
      have hP := wrk (w2 := wFm aF aN aT aL aO aH aP aX ++ (wSt cI aN S ++ (wSt cI aT (pset u9 10 (f6_put 3 (u9 10) p1 p2)) ++ (wHi cS aH ah G ++ (wZs cI ah Z))))) hP hD [21] rfl (by decide) hk1 hB rfl rfl
      have hD := D_addr (w1 := wFm aF aN aT aL aO aH aP aX ++ (wSt cI aN S ++ (wSt cI aT (pset u9 10 (f6_put 3 (u9 10) p1 p2)) ++ (wHi cS aH ah G ++ (wZs cI ah Z))))) hD rfl
      obtain ⟨Rb11, hRb11⟩ : ∃ z : Pic, z = (pset u9 10 (f6_put 3 (u9 10) p1 p2)) := ⟨_, rfl⟩
      rw [← hRb11] at hP hD
      have hR := bd_n hRb11 hR
      refine lv_aload_n hx hb dX6_set_67 rfl (lv_at hl 0 rfl) ?_
      refine va_get (D := (dC, dI)) (ci := 6) (v := .ref (aT 0)) (C := RX6) (T := TX6) (N := 7) hx hb hts hin6 hown hK hP 0 rfl rfl 1 (by decide) (hw_ hts 7 rfl) (fun _ h9 => h9) rfl dX6_set_68 ?_
      refine va_calli (va_runV (As := []) (rest := []) ⟨hx, hb, hml, hown, hts⟩ (met_X5_isAboveBudget l dC dI cI cZ cS aT Rb11 H6.size) (cwV 0 hts gX6_set_X5_isAboveBudget rfl rfl rfl (by decide +kernel) ⟨Nat.le_of_ble_eq_true rfl, Nat.le_of_ble_eq_true rfl⟩) (pV (wc := wSt cI aT Rb11) (ci := 5) (q0 := 12) hK hP hD hN [12, 13, 14, 15, 16, 17, 18, 19, 20, 21, 22] rfl (by decide) rfl rfl) rfl rfl hl.1 rfl (lv_room (Nat.le_of_ble_eq_true rfl)) dX6_set_71 ⟨Nat.zero_le _, Nat.zero_le _⟩) hS (fun q _ h => a0_in hS hA q h) (a0_in hS hA) (fun r12 u t H7 locs ht hvm hw hB hz1 hk1 hS => ?_)
      obtain ⟨hw, nb13⟩ := hw
      have hR := bd_n hw hR
      have hP := rdk hP hk1
      refine lv_if_eq (tgt := 87) hx hb dX6_set_74 (by decide) (fun c_14 => ?_) (fun c_14 => ?_)
      · rw [if_pos c_14] at hR
        refine lv_aload_n hx hb dX6_set_87 rfl (lv_at hl 0 rfl) ?_
        refine va_get (D := (dC, dI)) (ci := 6) (v := .ref (aN 0)) (C := RX6) (T := TX6) (N := 7) hx hb hts hin6 hown hK hP 0 rfl rfl 0 (by decide) (hw_ hts 8 rfl) (fun _ h9 => h9) rfl dX6_set_88 ?_
        refine va_get (D := (dC, dI)) (ci := 5) (v := .ref (aN 10)) (C := RX5) (T := TX5) (N := 12) hx hb hts hin5 hown hK hP 1 rfl rfl 10 (by decide) (hw_ hts 9 rfl) (fun _ h9 => h9) rfl dX6_set_91 ?_
        refine lv_iload_n hx hb dX6_set_94 rfl (lv_at hl 1 rfl) ?_
        refine va_calli (va_runS (As := [.ref (aN 10), .int p1]) (rest := []) ⟨hx, hb, hml, hown, hts⟩ (met_X6_at l dC dI cI cZ cS (aN 10) 3 (by decide) (S 10) H7.size p1) (va_cwS 2 hts gX6_set_X6_at rfl rfl rfl (by decide +kernel) ⟨Nat.le_of_ble_eq_true rfl, Nat.le_of_ble_eq_true rfl⟩) (pS (wc := [((aN 10), .inl (cI, 3, .inl (S 10)))]) hK hP hD hN [10] rfl (by decide)) rfl rfl hl.1 rfl (lv_room (Nat.le_of_ble_eq_true rfl)) dX6_set_95 ⟨Nat.zero_le _, Nat.zero_le _⟩) hS (fun q _ h => a0_in hS hA q h) (a0_in hS hA) (fun r15 u t H8 locs ht hvm hw hB hz1 hk1 hS => ?_)
        subst hw
        have hP := rdk hP hk1
        refine lv_topi (fun v16 hv16 => ?_)
        have hR := bd_n hv16 hR
        refine lv_istore_n (lv' := [(3, .int v16), (0, .ref (aF 0)), (1, .int p1), (2, .int p2)]) hx hb dX6_set_98 rfl hl (by decide) rfl (fun ls hl => ?_)
        refine lv_aload_n hx hb dX6_set_99 rfl (lv_at hl 1 rfl) ?_
        have hF := va_free (wc := wFm aF aN aT aL aO aH aP aX ++ (wSt cI aN S ++ (wSt cI aT Rb11 ++ (wHi cS aH ah G ++ (wZs cI ah Z))))) hD hS hA [0, 1, 2, 3, 4, 5, 6, 7, 8, 9, 10, 11, 12, 13, 14, 15, 16, 17, 18, 19, 20, 21, 22, 23, 24, 25, 26, 27, 28, 29, 30, 31, 32, 33, 34, 35, 36, 37, 38, 39, 40, 41, 42, 43, 44, 45, 46, 47, 48, 49, 50, 51, 52, 53, 54, 55, 56, 57, 58, 59, 60, 61, 62, 63, 64, 65, 66, 67, 68, 69, 70, 71, 72, 73, 74, 75, 76, 77, 78, 79, 80, 81, 82, 83, 84, 85, 86, 87, 88, 89, 90] rfl
        refine va_callv (va_runV (As := []) (rest := []) ⟨hx, hb, hml, hown, hts⟩ (met_X6_takeOverTrial l dC dI cI cZ cS aF aN aT aL aO aH ah aP aX S Rb11 G Z H8.size) (cwV 0 hts gX6_set_X6_takeOverTrial rfl rfl rfl (by decide +kernel) ⟨Nat.le_of_ble_eq_true rfl, Nat.le_of_ble_eq_true rfl⟩) (pV (wc := wFm aF aN aT aL aO aH aP aX ++ (wSt cI aN S ++ (wSt cI aT Rb11 ++ (wHi cS aH ah G ++ (wZs cI ah Z))))) (ci := 6) (q0 := 0) hK hP hD hN [0, 1, 2, 3, 4, 5, 6, 7, 8, 9, 10, 11, 12, 13, 14, 15, 16, 17, 18, 19, 20, 21, 22, 23, 24, 25, 26, 27, 28, 29, 30, 31, 32, 33, 34, 35, 36, 37, 38, 39, 40, 41, 42, 43, 44, 45, 46, 47, 48, 49, 50, 51, 52, 53, 54, 55, 56, 57, 58, 59, 60, 61, 62, 63, 64, 65, 66, 67, 68, 69, 70, 71, 72, 73, 74, 75, 76, 77, 78, 79, 80, 81, 82, 83, 84, 85, 86, 87, 88, 89, 90] rfl (by decide) rfl rfl) rfl rfl hl.1 rfl (lv_room (Nat.le_of_ble_eq_true rfl)) dX6_set_100 ⟨Nat.zero_le _, Nat.zero_le _⟩) hS (fun q _ h => hF q h) hF (fun  u t H9 locs ht hvm hw hB hz1 hk1 hS => ?_)
        obtain ⟨u17, u18, u19⟩ := u
        try dsimp only at hw hB
        rw [ht] at hB
        have hR := bd3_n hw hR
        have hP := wrk2 (w2 := wFm aF aN aT aL aO aH aP aX ++ (wSt cI aN u17 ++ (wSt cI aT Rb11 ++ (wHi cS aH ah u18 ++ (wZs cI ah u19))))) (wr := []) hP hD [0, 1, 2, 3, 4, 5, 6, 7, 8, 9, 10, 11, 12, 13, 14, 15, 16, 17, 18, 19, 20, 21, 22, 23, 24, 25, 26, 27, 28, 29, 30, 31, 32, 33, 34, 35, 36, 37, 38, 39, 40, 41, 42, 43, 44, 45, 46, 47, 48, 49, 50, 51, 52, 53, 54, 55, 56, 57, 58, 59, 60, 61, 62, 63, 64, 65, 66, 67, 68, 69, 70, 71, 72, 73, 74, 75, 76, 77, 78, 79, 80, 81, 82, 83, 84, 85, 86, 87, 88, 89, 90] [] rfl rfl (by decide) hk1 hB [0, 1, 2, 3, 4, 5, 6, 7, 8, 9, 10, 11, 12, 13, 14, 15, 16, 17, 18, 19, 20, 21, 22, 23, 24, 25, 26, 27, 28, 29, 30, 31, 32, 33, 34, 35, 36, 37, 38, 39, 40, 41, 42, 43, 44, 45, 46, 47, 48, 49, 50, 51, 52, 53, 54, 55, 56, 57, 58, 59, 60, 61, 62, 63, 64, 65, 66, 67, 68, 69, 70, 71, 72, 73, 74, 75, 76, 77, 78, 79, 80, 81, 82, 83, 84, 85, 86, 87, 88, 89, 90] rfl
        have hD := D_addr (w1 := wFm aF aN aT aL aO aH aP aX ++ (wSt cI aN u17 ++ (wSt cI aT Rb11 ++ (wHi cS aH ah u18 ++ (wZs cI ah u19))))) hD rfl
        refine lv_iload_n hx hb dX6_set_103 rfl (lv_at hl 0 rfl) ?_
        exact vx_ret (W.widen (k := 1) (n := 6) (Nat.zero_le _) (Nat.zero_le _) (W.iret (v := v16) hx hb hr (fun t ht hW => ⟨⟨v16, (u17, Rb11, u18, u19), rfl, hR, P_at ht hP⟩, hS.F ht⟩) hS.2.2 dX6_set_104))
      · rw [if_neg c_14] at hR
        obtain ⟨sa, hsa⟩ := hXW.1 169 (by decide)
        exact vx_throwS (text := strT 169) (sa := sa) (A := A) (names := ["java/lang/RuntimeException", "java/lang/Exception"]) (cls := "java/lang/IllegalStateException") hx hb hfl hown (by decide) (by decide) (hw_ hts 5 rfl) (hw_ hts 6 rfl) hsa (thr_at3 hXW (fun w h => hts w (List.mem_cons_of_mem _ (List.mem_append_right _ h)))) (by decide +kernel) hU hNs hS (hl.1.trans hml.symm) dX6_set_77 dX6_set_80 dX6_set_81 dX6_set_83 dX6_set_86 (fun x hx => (htab x hx).elim) (Nat.lt_of_sub_pos (Nat.le_of_ble_eq_true rfl)) (Nat.le_of_ble_eq_true rfl) (Nat.le_of_ble_eq_true rfl) (Nat.le_of_ble_eq_true rfl) hlocks (fun t h1 h2 h3 => ⟨(S, Rb11, G, Z), trivial, ⟨(3 : Int32), rfl, by decide, hR, thr_P hP h3⟩, thr_F hS h2 h3⟩) hS.2.2 (Nat.le_of_ble_eq_true rfl) (Nat.le_of_ble_eq_true rfl)
    · rw [if_pos c_8] at hR
      obtain ⟨sa, hsa⟩ := hXW.1 161 (by decide)
      exact vx_throwS (text := strT 161) (sa := sa) (A := A) (names := ["java/lang/RuntimeException", "java/lang/Exception"]) (cls := "java/lang/IllegalArgumentException") hx hb hfl hown (by decide) (by decide) (hw_ hts 3 rfl) (hw_ hts 4 rfl) hsa (thr_at2 hXW (fun w h => hts w (List.mem_cons_of_mem _ (List.mem_append_left _ (List.mem_append_right _ h))))) (by decide +kernel) hU hNs hS (hl.1.trans hml.symm) dX6_set_34 dX6_set_37 dX6_set_38 dX6_set_40 dX6_set_43 (fun x hx => (htab x hx).elim) (Nat.lt_of_sub_pos (Nat.le_of_ble_eq_true rfl)) (Nat.le_of_ble_eq_true rfl) (Nat.le_of_ble_eq_true rfl) (Nat.le_of_ble_eq_true rfl) hlocks (fun t h1 h2 h3 => ⟨(S, R, G, Z), trivial, ⟨(2 : Int32), rfl, by decide, hR, thr_P hP h3⟩, thr_F hS h2 h3⟩) hS.2.2 (Nat.le_of_ble_eq_true rfl) (Nat.le_of_ble_eq_true rfl)
  · rw [if_pos c_3] at hR
    obtain ⟨sa, hsa⟩ := hXW.1 152 (by decide)
    exact vx_throwS (text := strT 152) (sa := sa) (A := A) (names := ["java/lang/RuntimeException", "java/lang/Exception"]) (cls := "java/lang/IndexOutOfBoundsException") hx hb hfl hown (by decide) (by decide) (hw_ hts 1 rfl) (hw_ hts 2 rfl) hsa (thr_at1 hXW (fun w h => hts w (List.mem_cons_of_mem _ (List.mem_append_left _ (List.mem_append_left _ (List.mem_append_right _ h)))))) (by decide +kernel) hU hNs hS (hl.1.trans hml.symm) dX6_set_9 dX6_set_12 dX6_set_13 dX6_set_15 dX6_set_18 (fun x hx => (htab x hx).elim) (Nat.lt_of_sub_pos (Nat.le_of_ble_eq_true rfl)) (Nat.le_of_ble_eq_true rfl) (Nat.le_of_ble_eq_true rfl) (Nat.le_of_ble_eq_true rfl) hlocks (fun t h1 h2 h3 => ⟨(S, R, G, Z), trivial, ⟨(1 : Int32), rfl, by decide, hR, thr_P hP h3⟩, thr_F hS h2 h3⟩) hS.2.2 (Nat.le_of_ble_eq_true rfl) (Nat.le_of_ble_eq_true rfl)
abbrev rm_X6_serve : Room := { frames := 6, cells := 1, slots := 6, locals := 126 }
abbrev x_X6_serve (dC : Nat → ClassId) (dI : Nat → Nat → Nat) (cI cZ cS : ClassId) (aF aN aT aL aO aH : Nat → Nat) (ah : Nat → Nat → Nat) (aP aX : Nat → Nat)  (res : Int32 × Int32 × Pic × Pic × Pic × (Nat → Pic)) (A : Nat → Prop) : String → State → State → Prop := vx_X (fun (_ : Pic × Pic × Pic × (Nat → Pic)) => True) (fun E u t => ∃ c : Int32, exN c = E ∧ ¬ c = 0 ∧ (c, (0 : Int32), u) = res ∧ va_P (dC, dI) vwCl (wFm aF aN aT aL aO aH aP aX ++ (wSt cI aN u.1 ++ (wLo cI aL u.2.1 ++ (wOu aO aN aL ++ (wHi cS aH ah u.2.2.1 ++ (wZs cI ah u.2.2.2)))))) t.heap) A
abbrev q_X6_serve (dC : Nat → ClassId) (dI : Nat → Nat → Nat) (cI cZ cS : ClassId) (aF aN aT aL aO aH : Nat → Nat) (ah : Nat → Nat → Nat) (aP aX : Nat → Nat)  (res : Int32 × Int32 × Pic × Pic × Pic × (Nat → Pic)) (A : Nat → Prop) : Array Value → State → Outcome → State → Prop := va_Qi (fun (r : Int32) (u : Pic × Pic × Pic × (Nat → Pic)) => ((0 : Int32), r, u) = res) (fun u t => va_P (dC, dI) vwCl (wFm aF aN aT aL aO aH aP aX ++ (wSt cI aN u.1 ++ (wLo cI aL u.2.1 ++ (wOu aO aN aL ++ (wHi cS aH ah u.2.2.1 ++ (wZs cI ah u.2.2.2)))))) t.heap) A
set_option maxHeartbeats 4000000 in
set_option maxRecDepth 100000 in
theorem met_X6_serve (l : Launch) (hfl : l.stackTraces = false) (dC : Nat → ClassId) (dI : Nat → Nat → Nat) (cI cZ cS : ClassId) (aF aN aT aL aO aH : Nat → Nat) (ah : Nat → Nat → Nat) (aP aX : Nat → Nat) (S : Pic) (Y : Pic) (G : Pic) (Z : (Nat → Pic)) (base sz : Nat) (p1 : Int32) (p2 : Int32) : vx_Met l yX6_serve wsX6_serve rm_X6_serve (va_Pc [.ref (aF 0), .int p1, .int p2] (pX (dC, dI) (tyS cI cZ cS) (wFm aF aN aT aL aO aH aP aX ++ (wSt cI aN S ++ (wLo cI aL Y ++ (wOu aO aN aL ++ (wHi cS aH ah G ++ (wZs cI ah Z)))))) base sz)) (q_X6_serve dC dI cI cZ cS aF aN aT aL aO aH ah aP aX (f6_serve S Y G Z p1 p2) (va_A (wFm aF aN aT aL aO aH aP aX ++ (wSt cI aN S ++ (wLo cI aL Y ++ (wOu aO aN aL ++ (wHi cS aH ah G ++ (wZs cI ah Z)))))) sz)) (x_X6_serve dC dI cI cZ cS aF aN aT aL aO aH ah aP aX (f6_serve S Y G Z p1 p2) (va_A (wFm aF aN aT aL aO aH aP aX ++ (wSt cI aN S ++ (wLo cI aL Y ++ (wOu aO aN aL ++ (wHi cS aH ah G ++ (wZs cI ah Z)))))) sz)) 1 6 (va_A (wFm aF aN aT aL aO aH aP aX ++ (wSt cI aN S ++ (wLo cI aL Y ++ (wOu aO aN aL ++ (wHi cS aH ah G ++ (wZs cI ah Z)))))) sz) := by
  refine vx_ofW (cc := cX6_serve) (maxL := 4) (ret := (some .int)) (by decide) rfl ?_
  intro p e s m args below meth c s₁ B hml htab hv
  obtain ⟨rfl, hsz, hP, hK, hD0, hN, hbs, hXW⟩ := hv
  have hx := B.exec
  have hb := B.bytes
  have hr := B.returns
  have hts := atoms_spec (ws := wsX6_serve) B.pre
  have hown : s.vm.findClass RX6 = some m.cls := findClass_of_methodNamed B.named
  have hlocks := B.notSynchronized
  subst hsz
  have hD := hD0.self (sz := s.heap.size)
  generalize hAe : va_A (wFm aF aN aT aL aO aH aP aX ++ (wSt cI aN S ++ (wLo cI aL Y ++ (wOu aO aN aL ++ (wHi cS aH ah G ++ (wZs cI ah Z)))))) s.heap.size = A at hD ⊢
  have hA : ∀ q : Nat, s.heap.size ≤ q → A q := fun q h => by rw [← hAe]; exact Or.inr h
  have hS : va_S A s.heap s.heap [] := va_S.rf
  have hAb : ∀ q, A q → base ≤ q := fun q h => by rw [← hAe] at h; exact base_of hD0 hbs q h
  have hU := hXW.2.1.narrow hAb
  have hNs := hXW.2.2.1.narrow hAb
  have hP : va_P (dC, dI) vwCl (wFm aF aN aT aL aO aH aP aX ++ (wSt cI aN S ++ (wLo cI aL Y ++ (wOu aO aN aL ++ (wHi cS aH ah G ++ (wZs cI ah Z)))))) s.heap := hP
  generalize hR : f6_serve S Y G Z p1 p2 = res
  rw [f6_serve] at hR
  have hin6 : ∀ w ∈ wsX60, w ∈ wsX6_serve := by decide +kernel
  have hin5 : ∀ w ∈ wsX50, w ∈ wsX6_serve := by decide +kernel
  have hl := lv_entry ([.ref (aF 0), .int p1, .int p2]) (n := 4) (Nat.le_of_ble_eq_true rfl)
  rw [lg_entry_eq]
  generalize (lg_sl ([.ref (aF 0), .int p1, .int p2]) ++ List.replicate (4 - (lg_sl ([.ref (aF 0), .int p1, .int p2])).length) Slot.unset).toArray = ls at hl ⊢
  have hl : lv_has ls 4 [(0, .ref (aF 0)), (1, .int p1), (2, .int p2)] := hl
  refine lv_iload_n hx hb dX6_serve_0 rfl (lv_at hl 1 rfl) ?_
  refine va_calli (va_runS (As := [.int p1]) (rest := []) ⟨hx, hb, hml, hown, hts⟩ (met_X6_isDay l dC dI cI cZ cS s.heap.size p1) (va_cwS 1 hts gX6_serve_X6_isDay rfl rfl rfl (by decide +kernel) ⟨Nat.le_of_ble_eq_true rfl, Nat.le_of_ble_eq_true rfl⟩) (pS (wc := []) hK hP hD hN [] rfl (by decide)) rfl rfl hl.1 rfl (lv_room (Nat.le_of_ble_eq_true rfl)) dX6_serve_1 ⟨Nat.zero_le _, Nat.zero_le _⟩) hS (fun q _ h => a0_in hS hA q h) (a0_in hS hA) (fun r1 u t H1 locs ht hvm hw hB hz1 hk1 hS => ?_)
  obtain ⟨hw, nb2⟩ := hw
  subst hw
  have hP := rdk hP hk1
  refine lv_if_eq (tgt := 18) hx hb dX6_serve_4 (by decide) (fun c_3 => ?_) (fun c_3 => ?_)
  · rw [if_pos c_3] at hR
    obtain ⟨sa, hsa⟩ := hXW.1 174 (by decide)
    exact vx_throwS (text := strT 174) (sa := sa) (A := A) (names := ["java/lang/RuntimeException", "java/lang/Exception"]) (cls := "java/lang/IndexOutOfBoundsException") hx hb hfl hown (by decide) (by decide) (hw_ hts 1 rfl) (hw_ hts 2 rfl) hsa (thr_at1 hXW (fun w h => hts w (List.mem_cons_of_mem _ (List.mem_append_left _ (List.mem_append_right _ h))))) (by decide +kernel) hU hNs hS (hl.1.trans hml.symm) dX6_serve_18 dX6_serve_21 dX6_serve_22 dX6_serve_24 dX6_serve_27 (fun x hx => (htab x hx).elim) (Nat.lt_of_sub_pos (Nat.le_of_ble_eq_true rfl)) (Nat.le_of_ble_eq_true rfl) (Nat.le_of_ble_eq_true rfl) (Nat.le_of_ble_eq_true rfl) hlocks (fun t h1 h2 h3 => ⟨(S, Y, G, Z), trivial, ⟨(1 : Int32), rfl, by decide, hR, thr_P hP h3⟩, thr_F hS h2 h3⟩) hS.2.2 (Nat.le_of_ble_eq_true rfl) (Nat.le_of_ble_eq_true rfl)
  · rw [if_neg c_3] at hR
    refine lv_aload_n hx hb dX6_serve_7 rfl (lv_at hl 0 rfl) ?_
    refine va_get (D := (dC, dI)) (ci := 6) (v := .ref (aN 0)) (C := RX6) (T := TX6) (N := 7) hx hb hts hin6 hown hK hP 0 rfl rfl 0 (by decide) (hw_ hts 5 rfl) (fun _ h9 => h9) rfl dX6_serve_8 ?_
    refine lv_iload_n hx hb dX6_serve_11 rfl (lv_at hl 2 rfl) ?_
    refine va_calli (va_runV (As := [.int p2]) (rest := []) ⟨hx, hb, hml, hown, hts⟩ (met_X5_hasDish l dC dI cI cZ cS aN S H1.size p2) (cwV 1 hts gX6_serve_X5_hasDish rfl rfl rfl (by decide +kernel) ⟨Nat.le_of_ble_eq_true rfl, Nat.le_of_ble_eq_true rfl⟩) (pV (wc := wSt cI aN S) (ci := 5) (q0 := 1) hK hP hD hN [1, 2, 3, 4, 5, 6, 7, 8, 9, 10, 11] rfl (by decide) rfl rfl) rfl rfl hl.1 rfl (lv_room (Nat.le_of_ble_eq_true rfl)) dX6_serve_12 ⟨Nat.zero_le _, Nat.zero_le _⟩) hS (fun q _ h => a0_in hS hA q h) (a0_in hS hA) (fun r4 u t H2 locs ht hvm hw hB hz1 hk1 hS => ?_)
    obtain ⟨hw, nb5⟩ := hw
    subst hw
    have hP := rdk hP hk1
    refine lv_if_ne (tgt := 28) hx hb dX6_serve_15 (by decide) (fun c_6 => ?_) (fun c_6 => ?_)
    · rw [if_neg c_6] at hR
      refine lv_aload_n hx hb dX6_serve_28 rfl (lv_at hl 0 rfl) ?_
      refine va_get (D := (dC, dI)) (ci := 6) (v := .ref (aN 0)) (C := RX6) (T := TX6) (N := 7) hx hb hts hin6 hown hK hP 0 rfl rfl 0 (by decide) (hw_ hts 5 rfl) (fun _ h9 => h9) rfl dX6_serve_29 ?_
      refine va_get (D := (dC, dI)) (ci := 5) (v := .ref (aN 1)) (C := RX5) (T := TX5) (N := 12) hx hb hts hin5 hown hK hP 1 rfl rfl 1 (by decide) (hw_ hts 6 rfl) (fun _ h9 => h9) rfl dX6_serve_32 ?_
      refine lv_iload_n hx hb dX6_serve_35 rfl (lv_at hl 2 rfl) ?_
      refine va_calli (va_runS (As := [.ref (aN 1), .int p2]) (rest := []) ⟨hx, hb, hml, hown, hts⟩ (met_X6_at l dC dI cI cZ cS (aN 1) 12 (by decide) (S 1) H2.size p2) (va_cwS 2 hts gX6_serve_X6_at rfl rfl rfl (by decide +kernel) ⟨Nat.le_of_ble_eq_true rfl, Nat.le_of_ble_eq_true rfl⟩) (pS (wc := [((aN 1), .inl (cI, 12, .inl (S 1)))]) hK hP hD hN [2] rfl (by decide)) rfl rfl hl.1 rfl (lv_room (Nat.le_of_ble_eq_true rfl)) dX6_serve_36 ⟨Nat.zero_le _, Nat.zero_le _⟩) hS (fun q _ h => a0_in hS hA q h) (a0_in hS hA) (fun r7 u t H3 locs ht hvm hw hB hz1 hk1 hS => ?_)
      subst hw
      have hP := rdk hP hk1
      refine lv_topi (fun v8 hv8 => ?_)
      have hR := bd_n hv8 hR
      refine lv_istore_n (lv' := [(3, .int v8), (0, .ref (aF 0)), (1, .int p1), (2, .int p2)]) hx hb dX6_serve_39 rfl hl (by decide) rfl (fun ls hl => ?_)
      refine lv_aload_n hx hb dX6_serve_40 rfl (lv_at hl 1 rfl) ?_
      refine va_get (D := (dC, dI)) (ci := 6) (v := .ref (aO 0)) (C := RX6) (T := TX6) (N := 7) hx hb hts hin6 hown hK hP 0 rfl rfl 3 (by decide) (hw_ hts 7 rfl) (fun _ h9 => h9) rfl dX6_serve_41 ?_
      refine lv_iload_n hx hb dX6_serve_44 rfl (lv_at hl 2 rfl) ?_
      refine lv_iload_n hx hb dX6_serve_45 rfl (lv_at hl 0 rfl) ?_
      refine lv_iload_n hx hb dX6_serve_46 rfl (lv_at hl 3 rfl) ?_
      have hF := va_free (wc := wOu aO aN aL ++ (wLo cI aL Y ++ (wSt cI aN S))) hD hS hA [15, 12, 13, 14, 1, 2, 3, 4, 5, 6, 7, 8, 9, 10, 11] rfl
      refine va_calli (va_runV (As := [.int p1, .int v8, .int p2]) (rest := []) ⟨hx, hb, hml, hown, hts⟩ (met_X2_reasonAgainst l dC dI cI cZ cS aO aL aN Y S H3.size p1 v8 p2) (cwV 3 hts gX6_serve_X2_reasonAgainst rfl rfl rfl (by decide +kernel) ⟨Nat.le_of_ble_eq_true rfl, Nat.le_of_ble_eq_true rfl⟩) (pV (wc := wOu aO aN aL ++ (wLo cI aL Y ++ (wSt cI aN S))) (ci := 2) (q0 := 15) hK hP hD hN [15, 12, 13, 14, 1, 2, 3, 4, 5, 6, 7, 8, 9, 10, 11] rfl (by decide) rfl rfl) rfl rfl hl.1 rfl (lv_room (Nat.le_of_ble_eq_true rfl)) dX6_serve_47 ⟨Nat.zero_le _, Nat.zero_le _⟩) hS (fun q _ h => hF q h) hF (fun r9 u t H4 locs ht hvm hw hB hz1 hk1 hS => ?_)
      obtain ⟨u10, u11⟩ := u
      try dsimp only at hw hB
      rw [ht] at hB
      have hR := bd3_n hw hR
      have hP := wrk2 (w2 := wFm aF aN aT aL aO aH aP aX ++ (wSt cI aN u11 ++ (wLo cI aL u10 ++ (wOu aO aN aL ++ (wHi cS aH ah G ++ (wZs cI ah Z)))))) (wr := wFm aF aN aT aL aO aH aP aX ++ (wHi cS aH ah G ++ (wZs cI ah Z))) hP hD [15, 12, 13, 14, 1, 2, 3, 4, 5, 6, 7, 8, 9, 10, 11] [0, 16, 17, 18, 19, 20, 21, 22, 23, 24, 25, 26, 27, 28, 29, 30, 31, 32, 33, 34, 35, 36, 37, 38, 39, 40, 41, 42, 43, 44, 45, 46, 47, 48, 49, 50, 51, 52, 53, 54, 55, 56, 57, 58, 59, 60, 61, 62, 63, 64, 65, 66, 67, 68, 69, 70, 71, 72, 73, 74, 75, 76, 77, 78, 79, 80, 81, 82, 83] rfl rfl (by decide) hk1 hB [0, 73, 74, 75, 76, 77, 78, 79, 80, 81, 82, 83, 70, 71, 72, 69, 1, 2, 3, 4, 5, 6, 7, 8, 9, 10, 11, 12, 13, 14, 15, 16, 17, 18, 19, 20, 21, 22, 23, 24, 25, 26, 27, 28, 29, 30, 31, 32, 33, 34, 35, 36, 37, 38, 39, 40, 41, 42, 43, 44, 45, 46, 47, 48, 49, 50, 51, 52, 53, 54, 55, 56, 57, 58, 59, 60, 61, 62, 63, 64, 65, 66, 67, 68] rfl
      have hD := D_addr (w1 := wFm aF aN aT aL aO aH aP aX ++ (wSt cI aN u11 ++ (wLo cI aL u10 ++ (wOu aO aN aL ++ (wHi cS aH ah G ++ (wZs cI ah Z)))))) hD rfl
      refine lv_if_eq (tgt := 63) hx hb dX6_serve_50 (by decide) (fun c_12 => ?_) (fun c_12 => ?_)
      · rw [if_pos c_12] at hR
        refine lv_aload_n hx hb dX6_serve_63 rfl (lv_at hl 1 rfl) ?_
        refine va_get (D := (dC, dI)) (ci := 6) (v := .ref (aH 0)) (C := RX6) (T := TX6) (N := 7) hx hb hts hin6 hown hK hP 0 rfl rfl 4 (by decide) (hw_ hts 8 rfl) (fun _ h9 => h9) rfl dX6_serve_64 ?_
        refine lv_aload_n hx hb dX6_serve_67 rfl (lv_at hl 1 rfl) ?_
        refine va_get (D := (dC, dI)) (ci := 6) (v := .ref (aN 0)) (C := RX6) (T := TX6) (N := 7) hx hb hts hin6 hown hK hP 0 rfl rfl 0 (by decide) (hw_ hts 5 rfl) (fun _ h9 => h9) rfl dX6_serve_68 ?_
        have hF := va_free (wc := wHi cS aH ah G ++ (wZs cI ah Z ++ (wSt cI aN u11))) hD hS hA [16, 17, 18, 19, 20, 21, 22, 23, 24, 25, 26, 27, 28, 29, 30, 31, 32, 33, 34, 35, 36, 37, 38, 39, 40, 41, 42, 43, 44, 45, 46, 47, 48, 49, 50, 51, 52, 53, 54, 55, 56, 57, 58, 59, 60, 61, 62, 63, 64, 65, 66, 67, 68, 69, 70, 71, 72, 73, 74, 75, 76, 77, 78, 79, 80, 81, 82, 83, 1, 2, 3, 4, 5, 6, 7, 8, 9, 10, 11] rfl
        refine va_callv (va_runV (As := [.ref (aN 0)]) (rest := []) ⟨hx, hb, hml, hown, hts⟩ (met_X0_save l dC dI cI cZ cS aH ah aN G Z u11 H4.size) (cwV 1 hts gX6_serve_X0_save rfl rfl rfl (by decide +kernel) ⟨Nat.le_of_ble_eq_true rfl, Nat.le_of_ble_eq_true rfl⟩) (pV (wc := wHi cS aH ah G ++ (wZs cI ah Z ++ (wSt cI aN u11))) (ci := 0) (q0 := 16) hK hP hD hN [16, 17, 18, 19, 20, 21, 22, 23, 24, 25, 26, 27, 28, 29, 30, 31, 32, 33, 34, 35, 36, 37, 38, 39, 40, 41, 42, 43, 44, 45, 46, 47, 48, 49, 50, 51, 52, 53, 54, 55, 56, 57, 58, 59, 60, 61, 62, 63, 64, 65, 66, 67, 68, 69, 70, 71, 72, 73, 74, 75, 76, 77, 78, 79, 80, 81, 82, 83, 1, 2, 3, 4, 5, 6, 7, 8, 9, 10, 11] rfl (by decide) rfl rfl) rfl rfl hl.1 rfl (lv_room (Nat.le_of_ble_eq_true rfl)) dX6_serve_71 ⟨Nat.zero_le _, Nat.zero_le _⟩) hS (fun q _ h => hF q h) hF (fun  u t H5 locs ht hvm hw hB hz1 hk1 hS => ?_)
        obtain ⟨u13, u14⟩ := u
        try dsimp only at hw hB
        rw [ht] at hB
        have hR := bd2_n hw hR
        have hP := wrk2 (w2 := wFm aF aN aT aL aO aH aP aX ++ (wSt cI aN u11 ++ (wLo cI aL u10 ++ (wOu aO aN aL ++ (wHi cS aH ah u13 ++ (wZs cI ah u14)))))) (wr := wFm aF aN aT aL aO aH aP aX ++ (wLo cI aL u10 ++ (wOu aO aN aL))) hP hD [16, 17, 18, 19, 20, 21, 22, 23, 24, 25, 26, 27, 28, 29, 30, 31, 32, 33, 34, 35, 36, 37, 38, 39, 40, 41, 42, 43, 44, 45, 46, 47, 48, 49, 50, 51, 52, 53, 54, 55, 56, 57, 58, 59, 60, 61, 62, 63, 64, 65, 66, 67, 68, 69, 70, 71, 72, 73, 74, 75, 76, 77, 78, 79, 80, 81, 82, 83, 1, 2, 3, 4, 5, 6, 7, 8, 9, 10, 11] [0, 12, 13, 14, 15] rfl rfl (by decide) hk1 hB [0, 73, 74, 75, 76, 77, 78, 79, 80, 81, 82, 83, 1, 2, 3, 4, 5, 6, 7, 8, 9, 10, 11, 12, 13, 14, 15, 16, 17, 18, 19, 20, 21, 22, 23, 24, 25, 26, 27, 28, 29, 30, 31, 32, 33, 34, 35, 36, 37, 38, 39, 40, 41, 42, 43, 44, 45, 46, 47, 48, 49, 50, 51, 52, 53, 54, 55, 56, 57, 58, 59, 60, 61, 62, 63, 64, 65, 66, 67, 68, 69, 70, 71, 72] rfl
        have hD := D_addr (w1 := wFm aF aN aT aL aO aH aP aX ++ (wSt cI aN u11 ++ (wLo cI aL u10 ++ (wOu aO aN aL ++ (wHi cS aH ah u13 ++ (wZs cI ah u14)))))) hD rfl
        refine lv_aload_n hx hb dX6_serve_74 rfl (lv_at hl 1 rfl) ?_
        refine va_get (D := (dC, dI)) (ci := 6) (v := .ref (aN 0)) (C := RX6) (T := TX6) (N := 7) hx hb hts hin6 hown hK hP 0 rfl rfl 0 (by decide) (hw_ hts 5 rfl) (fun _ h9 => h9) rfl dX6_serve_75 ?_
        refine va_get (D := (dC, dI)) (ci := 5) (v := .ref (aN 11)) (C := RX5) (T := TX5) (N := 12) hx hb hts hin5 hown hK hP 1 rfl rfl 11 (by decide) (hw_ hts 9 rfl) (fun _ h9 => h9) rfl dX6_serve_78 ?_
        refine lv_iload_n hx hb dX6_serve_81 rfl (lv_at hl 2 rfl) ?_
        refine lv_iload_n hx hb dX6_serve_82 rfl (lv_at hl 0 rfl) ?_
        refine va_calli (va_runS (As := [.int p1, .int v8]) (rest := [.ref (aN 11)]) ⟨hx, hb, hml, hown, hts⟩ (met_X6_cellOf l dC dI cI cZ cS H5.size p1 v8) (va_cwS 2 hts gX6_serve_X6_cellOf rfl rfl rfl (by decide +kernel) ⟨Nat.le_of_ble_eq_true rfl, Nat.le_of_ble_eq_true rfl⟩) (pS (wc := []) hK hP hD hN [] rfl (by decide)) rfl rfl hl.1 rfl (lv_room (Nat.le_of_ble_eq_true rfl)) dX6_serve_83 ⟨Nat.zero_le _, Nat.zero_le _⟩) hS (fun q _ h => a0_in hS hA q h) (a0_in hS hA) (fun r15 u t H6 locs ht hvm hw hB hz1 hk1 hS => ?_)
        subst hw
        have hP := rdk hP hk1
        refine lv_iload_n hx hb dX6_serve_86 rfl (lv_at hl 3 rfl) ?_
        have hF := va_free (wc := [((aN 11), .inl (cI, 84, .inl (u11 11)))]) hD hS hA [11] rfl
        refine va_callv (va_runS (As := [.ref (aN 11), .int (f6_cellOf p1 v8), .int p2]) (rest := []) ⟨hx, hb, hml, hown, hts⟩ (met_X6_put l dC dI cI cZ cS (aN 11) 84 (by decide) (u11 11) H6.size (f6_cellOf p1 v8) p2) (va_cwS 3 hts gX6_serve_X6_put rfl rfl rfl (by decide +kernel) ⟨Nat.le_of_ble_eq_true rfl, Nat.le_of_ble_eq_true rfl⟩) (pS (wc := [((aN 11), .inl (cI, 84, .inl (u11 11)))]) hK hP hD hN [11] rfl (by decide)) rfl rfl hl.1 rfl (lv_room (Nat.le_of_ble_eq_true rfl)) dX6_serve_87 ⟨Nat.zero_le _, Nat.zero_le _⟩) hS (fun q _ h => hF q h) hF (fun  u16 t H7 locs ht hvm hw hB hz1 hk1 hS => ?_)
        try dsimp only at hw hB
        rw [ht] at hB
        subst hw
        have hP := wrk (w2 := wFm aF aN aT aL aO aH aP aX ++ (wSt cI aN (pset u11 11 (f6_put 84 (u11 11) (f6_cellOf p1 v8) p2)) ++ (wLo cI aL u10 ++ (wOu aO aN aL ++ (wHi cS aH ah u13 ++ (wZs cI ah u14)))))) hP hD [11] rfl (by decide) hk1 hB rfl rfl
        have hD := D_addr (w1 := wFm aF aN aT aL aO aH aP aX ++ (wSt cI aN (pset u11 11 (f6_put 84 (u11 11) (f6_cellOf p1 v8) p2)) ++ (wLo cI aL u10 ++ (wOu aO aN aL ++ (wHi cS aH ah u13 ++ (wZs cI ah u14)))))) hD rfl
        obtain ⟨Sb17, hSb17⟩ : ∃ z : Pic, z = (pset u11 11 (f6_put 84 (u11 11) (f6_cellOf p1 v8) p2)) := ⟨_, rfl⟩
        rw [← hSb17] at hP hD
        have hR := bd_n hSb17 hR
        refine lv_aload_n hx hb dX6_serve_90 rfl (lv_at hl 1 rfl) ?_
        refine va_get (D := (dC, dI)) (ci := 6) (v := .ref (aO 0)) (C := RX6) (T := TX6) (N := 7) hx hb hts hin6 hown hK hP 0 rfl rfl 3 (by decide) (hw_ hts 7 rfl) (fun _ h9 => h9) rfl dX6_serve_91 ?_
        refine lv_iload_n hx hb dX6_serve_94 rfl (lv_at hl 2 rfl) ?_
        refine lv_iload_n hx hb dX6_serve_95 rfl (lv_at hl 3 rfl) ?_
        refine va_calli (va_runV (As := [.int p1, .int p2]) (rest := []) ⟨hx, hb, hml, hown, hts⟩ (met_X2_joyOfDish l dC dI cI cZ cS aO aL aN u10 Sb17 H7.size p1 p2) (cwV 2 hts gX6_serve_X2_joyOfDish rfl rfl rfl (by decide +kernel) ⟨Nat.le_of_ble_eq_true rfl, Nat.le_of_ble_eq_true rfl⟩) (pV (wc := wOu aO aN aL ++ (wLo cI aL u10 ++ (wSt cI aN Sb17))) (ci := 2) (q0 := 15) hK hP hD hN [15, 12, 13, 14, 1, 2, 3, 4, 5, 6, 7, 8, 9, 10, 11] rfl (by decide) rfl rfl) rfl rfl hl.1 rfl (lv_room (Nat.le_of_ble_eq_true rfl)) dX6_serve_96 ⟨Nat.zero_le _, Nat.zero_le _⟩) hS (fun q _ h => a0_in hS hA q h) (a0_in hS hA) (fun r18 u t H8 locs ht hvm hw hB hz1 hk1 hS => ?_)
        have hR := bd_n hw hR
        have hP := rdk hP hk1
        exact vx_ret (W.widen (k := 1) (n := 6) (Nat.zero_le _) (Nat.zero_le _) (W.iret (v := r18) hx hb hr (fun t ht hW => ⟨⟨r18, (Sb17, u10, u13, u14), rfl, hR, P_at ht hP⟩, hS.F ht⟩) hS.2.2 dX6_serve_99))
      · rw [if_neg c_12] at hR
        obtain ⟨sa, hsa⟩ := hXW.1 183 (by decide)
        exact vx_throwS (text := strT 183) (sa := sa) (A := A) (names := ["java/lang/RuntimeException", "java/lang/Exception"]) (cls := "java/lang/IllegalStateException") hx hb hfl hown (by decide) (by decide) (hw_ hts 3 rfl) (hw_ hts 4 rfl) hsa (thr_at3 hXW (fun w h => hts w (List.mem_cons_of_mem _ (List.mem_append_right _ h)))) (by decide +kernel) hU hNs hS (hl.1.trans hml.symm) dX6_serve_53 dX6_serve_56 dX6_serve_57 dX6_serve_59 dX6_serve_62 (fun x hx => (htab x hx).elim) (Nat.lt_of_sub_pos (Nat.le_of_ble_eq_true rfl)) (Nat.le_of_ble_eq_true rfl) (Nat.le_of_ble_eq_true rfl) (Nat.le_of_ble_eq_true rfl) hlocks (fun t h1 h2 h3 => ⟨(u11, u10, G, Z), trivial, ⟨(3 : Int32), rfl, by decide, hR, thr_P hP h3⟩, thr_F hS h2 h3⟩) hS.2.2 (Nat.le_of_ble_eq_true rfl) (Nat.le_of_ble_eq_true rfl)
    · rw [if_pos c_6] at hR
      obtain ⟨sa, hsa⟩ := hXW.1 174 (by decide)
      exact vx_throwS (text := strT 174) (sa := sa) (A := A) (names := ["java/lang/RuntimeException", "java/lang/Exception"]) (cls := "java/lang/IndexOutOfBoundsException") hx hb hfl hown (by decide) (by decide) (hw_ hts 1 rfl) (hw_ hts 2 rfl) hsa (thr_at1 hXW (fun w h => hts w (List.mem_cons_of_mem _ (List.mem_append_left _ (List.mem_append_right _ h))))) (by decide +kernel) hU hNs hS (hl.1.trans hml.symm) dX6_serve_18 dX6_serve_21 dX6_serve_22 dX6_serve_24 dX6_serve_27 (fun x hx => (htab x hx).elim) (Nat.lt_of_sub_pos (Nat.le_of_ble_eq_true rfl)) (Nat.le_of_ble_eq_true rfl) (Nat.le_of_ble_eq_true rfl) (Nat.le_of_ble_eq_true rfl) hlocks (fun t h1 h2 h3 => ⟨(S, Y, G, Z), trivial, ⟨(1 : Int32), rfl, by decide, hR, thr_P hP h3⟩, thr_F hS h2 h3⟩) hS.2.2 (Nat.le_of_ble_eq_true rfl) (Nat.le_of_ble_eq_true rfl)
abbrev rm_X6_drop : Room := { frames := 6, cells := 1, slots := 6, locals := 122 }
abbrev x_X6_drop (dC : Nat → ClassId) (dI : Nat → Nat → Nat) (cI cZ cS : ClassId) (aF aN aT aL aO aH : Nat → Nat) (ah : Nat → Nat → Nat) (aP aX : Nat → Nat)  (res : Int32 × Int32 × Pic × Pic × Pic × Pic × (Nat → Pic)) (A : Nat → Prop) : String → State → State → Prop := vx_X (fun (_ : Pic × Pic × Pic × Pic × (Nat → Pic)) => True) (fun E u t => ∃ c : Int32, exN c = E ∧ ¬ c = 0 ∧ (c, (0 : Int32), u) = res ∧ va_P (dC, dI) vwCl (wFm aF aN aT aL aO aH aP aX ++ (wSt cI aN u.1 ++ (wSt cI aT u.2.1 ++ (wLo cI aL u.2.2.1 ++ (wHi cS aH ah u.2.2.2.1 ++ (wZs cI ah u.2.2.2.2)))))) t.heap) A
abbrev q_X6_drop (dC : Nat → ClassId) (dI : Nat → Nat → Nat) (cI cZ cS : ClassId) (aF aN aT aL aO aH : Nat → Nat) (ah : Nat → Nat → Nat) (aP aX : Nat → Nat)  (res : Int32 × Int32 × Pic × Pic × Pic × Pic × (Nat → Pic)) (A : Nat → Prop) : Array Value → State → Outcome → State → Prop := va_Qi (fun (r : Int32) (u : Pic × Pic × Pic × Pic × (Nat → Pic)) => ((0 : Int32), r, u) = res) (fun u t => va_P (dC, dI) vwCl (wFm aF aN aT aL aO aH aP aX ++ (wSt cI aN u.1 ++ (wSt cI aT u.2.1 ++ (wLo cI aL u.2.2.1 ++ (wHi cS aH ah u.2.2.2.1 ++ (wZs cI ah u.2.2.2.2)))))) t.heap) A
set_option maxHeartbeats 4000000 in
set_option maxRecDepth 100000 in
theorem met_X6_drop (l : Launch) (hfl : l.stackTraces = false) (dC : Nat → ClassId) (dI : Nat → Nat → Nat) (cI cZ cS : ClassId) (aF aN aT aL aO aH : Nat → Nat) (ah : Nat → Nat → Nat) (aP aX : Nat → Nat) (S : Pic) (R : Pic) (Y : Pic) (G : Pic) (Z : (Nat → Pic)) (base sz : Nat) (p1 : Int32) (p2 : Int32) : vx_Met l yX6_drop wsX6_drop rm_X6_drop (va_Pc [.ref (aF 0), .int p1, .int p2] (pX (dC, dI) (tyS cI cZ cS) (wFm aF aN aT aL aO aH aP aX ++ (wSt cI aN S ++ (wSt cI aT R ++ (wLo cI aL Y ++ (wHi cS aH ah G ++ (wZs cI ah Z)))))) base sz)) (q_X6_drop dC dI cI cZ cS aF aN aT aL aO aH ah aP aX (f6_drop S R Y G Z p1 p2) (va_A (wFm aF aN aT aL aO aH aP aX ++ (wSt cI aN S ++ (wSt cI aT R ++ (wLo cI aL Y ++ (wHi cS aH ah G ++ (wZs cI ah Z)))))) sz)) (x_X6_drop dC dI cI cZ cS aF aN aT aL aO aH ah aP aX (f6_drop S R Y G Z p1 p2) (va_A (wFm aF aN aT aL aO aH aP aX ++ (wSt cI aN S ++ (wSt cI aT R ++ (wLo cI aL Y ++ (wHi cS aH ah G ++ (wZs cI ah Z)))))) sz)) 1 6 (va_A (wFm aF aN aT aL aO aH aP aX ++ (wSt cI aN S ++ (wSt cI aT R ++ (wLo cI aL Y ++ (wHi cS aH ah G ++ (wZs cI ah Z)))))) sz) := by
  refine vx_ofW (cc := cX6_drop) (maxL := 5) (ret := (some .int)) (by decide) rfl ?_
  intro p e s m args below meth c s₁ B hml htab hv
  obtain ⟨rfl, hsz, hP, hK, hD0, hN, hbs, hXW⟩ := hv
  have hx := B.exec
  have hb := B.bytes
  have hr := B.returns
  have hts := atoms_spec (ws := wsX6_drop) B.pre
  have hown : s.vm.findClass RX6 = some m.cls := findClass_of_methodNamed B.named
  have hlocks := B.notSynchronized
  subst hsz
  have hD := hD0.self (sz := s.heap.size)
  generalize hAe : va_A (wFm aF aN aT aL aO aH aP aX ++ (wSt cI aN S ++ (wSt cI aT R ++ (wLo cI aL Y ++ (wHi cS aH ah G ++ (wZs cI ah Z)))))) s.heap.size = A at hD ⊢
  have hA : ∀ q : Nat, s.heap.size ≤ q → A q := fun q h => by rw [← hAe]; exact Or.inr h
  have hS : va_S A s.heap s.heap [] := va_S.rf
  have hAb : ∀ q, A q → base ≤ q := fun q h => by rw [← hAe] at h; exact base_of hD0 hbs q h
  have hU := hXW.2.1.narrow hAb
  have hNs := hXW.2.2.1.narrow hAb
  have hP : va_P (dC, dI) vwCl (wFm aF aN aT aL aO aH aP aX ++ (wSt cI aN S ++ (wSt cI aT R ++ (wLo cI aL Y ++ (wHi cS aH ah G ++ (wZs cI ah Z)))))) s.heap := hP
  generalize hR : f6_drop S R Y G Z p1 p2 = res
  rw [f6_drop] at hR
  have hin6 : ∀ w ∈ wsX60, w ∈ wsX6_drop := by decide +kernel
  have hin5 : ∀ w ∈ wsX50, w ∈ wsX6_drop := by decide +kernel
  have hl := lv_entry ([.ref (aF 0), .int p1, .int p2]) (n := 5) (Nat.le_of_ble_eq_true rfl)
  rw [lg_entry_eq]
  generalize (lg_sl ([.ref (aF 0), .int p1, .int p2]) ++ List.replicate (5 - (lg_sl ([.ref (aF 0), .int p1, .int p2])).length) Slot.unset).toArray = ls at hl ⊢
  have hl : lv_has ls 5 [(0, .ref (aF 0)), (1, .int p1), (2, .int p2)] := hl
  refine lv_iload_n hx hb dX6_drop_0 rfl (lv_at hl 1 rfl) ?_
  refine va_calli (va_runS (As := [.int p1]) (rest := []) ⟨hx, hb, hml, hown, hts⟩ (met_X6_isDay l dC dI cI cZ cS s.heap.size p1) (va_cwS 1 hts gX6_drop_X6_isDay rfl rfl rfl (by decide +kernel) ⟨Nat.le_of_ble_eq_true rfl, Nat.le_of_ble_eq_true rfl⟩) (pS (wc := []) hK hP hD hN [] rfl (by decide)) rfl rfl hl.1 rfl (lv_room (Nat.le_of_ble_eq_true rfl)) dX6_drop_1 ⟨Nat.zero_le _, Nat.zero_le _⟩) hS (fun q _ h => a0_in hS hA q h) (a0_in hS hA) (fun r1 u t H1 locs ht hvm hw hB hz1 hk1 hS => ?_)
  obtain ⟨hw, nb2⟩ := hw
  subst hw
  have hP := rdk hP hk1
  refine lv_if_eq (tgt := 14) hx hb dX6_drop_4 (by decide) (fun c_3 => ?_) (fun c_3 => ?_)
  · rw [if_pos c_3] at hR
    obtain ⟨sa, hsa⟩ := hXW.1 198 (by decide)
    exact vx_throwS (text := strT 198) (sa := sa) (A := A) (names := ["java/lang/RuntimeException", "java/lang/Exception"]) (cls := "java/lang/IndexOutOfBoundsException") hx hb hfl hown (by decide) (by decide) (hw_ hts 1 rfl) (hw_ hts 2 rfl) hsa (thr_at1 hXW (fun w h => hts w (List.mem_cons_of_mem _ (List.mem_append_left _ (List.mem_append_right _ h))))) (by decide +kernel) hU hNs hS (hl.1.trans hml.symm) dX6_drop_14 dX6_drop_17 dX6_drop_18 dX6_drop_20 dX6_drop_23 (fun x hx => (htab x hx).elim) (Nat.lt_of_sub_pos (Nat.le_of_ble_eq_true rfl)) (Nat.le_of_ble_eq_true rfl) (Nat.le_of_ble_eq_true rfl) (Nat.le_of_ble_eq_true rfl) hlocks (fun t h1 h2 h3 => ⟨(S, R, Y, G, Z), trivial, ⟨(1 : Int32), rfl, by decide, hR, thr_P hP h3⟩, thr_F hS h2 h3⟩) hS.2.2 (Nat.le_of_ble_eq_true rfl) (Nat.le_of_ble_eq_true rfl)
  · rw [if_neg c_3] at hR
    refine lv_iload_n hx hb dX6_drop_7 rfl (lv_at hl 2 rfl) ?_
    refine va_calli (va_runS (As := [.int p2]) (rest := []) ⟨hx, hb, hml, hown, hts⟩ (met_X6_isPart l dC dI cI cZ cS H1.size p2) (va_cwS 1 hts gX6_drop_X6_isPart rfl rfl rfl (by decide +kernel) ⟨Nat.le_of_ble_eq_true rfl, Nat.le_of_ble_eq_true rfl⟩) (pS (wc := []) hK hP hD hN [] rfl (by decide)) rfl rfl hl.1 rfl (lv_room (Nat.le_of_ble_eq_true rfl)) dX6_drop_8 ⟨Nat.zero_le _, Nat.zero_le _⟩) hS (fun q _ h => a0_in hS hA q h) (a0_in hS hA) (fun r4 u t H2 locs ht hvm hw hB hz1 hk1 hS => ?_)
    obtain ⟨hw, nb5⟩ := hw
    subst hw
    have hP := rdk hP hk1
    refine lv_if_ne (tgt := 24) hx hb dX6_drop_11 (by decide) (fun c_6 => ?_) (fun c_6 => ?_)
    · rw [if_neg c_6] at hR
      refine lv_iload_n hx hb dX6_drop_24 rfl (lv_at hl 1 rfl) ?_
      refine lv_iload_n hx hb dX6_drop_25 rfl (lv_at hl 2 rfl) ?_
      refine va_calli (va_runS (As := [.int p1, .int p2]) (rest := []) ⟨hx, hb, hml, hown, hts⟩ (met_X6_cellOf l dC dI cI cZ cS H2.size p1 p2) (va_cwS 2 hts gX6_drop_X6_cellOf rfl rfl rfl (by decide +kernel) ⟨Nat.le_of_ble_eq_true rfl, Nat.le_of_ble_eq_true rfl⟩) (pS (wc := []) hK hP hD hN [] rfl (by decide)) rfl rfl hl.1 rfl (lv_room (Nat.le_of_ble_eq_true rfl)) dX6_drop_26 ⟨Nat.zero_le _, Nat.zero_le _⟩) hS (fun q _ h => a0_in hS hA q h) (a0_in hS hA) (fun r7 u t H3 locs ht hvm hw hB hz1 hk1 hS => ?_)
      subst hw
      have hP := rdk hP hk1
      refine lv_topi (fun v8 hv8 => ?_)
      have hR := bd_n hv8 hR
      refine lv_istore_n (lv' := [(3, .int v8), (0, .ref (aF 0)), (1, .int p1), (2, .int p2)]) hx hb dX6_drop_29 rfl hl (by decide) rfl (fun ls hl => ?_)
      refine lv_aload_n hx hb dX6_drop_30 rfl (lv_at hl 1 rfl) ?_
      refine va_get (D := (dC, dI)) (ci := 6) (v := .ref (aN 0)) (C := RX6) (T := TX6) (N := 7) hx hb hts hin6 hown hK hP 0 rfl rfl 0 (by decide) (hw_ hts 5 rfl) (fun _ h9 => h9) rfl dX6_drop_31 ?_
      refine va_get (D := (dC, dI)) (ci := 5) (v := .ref (aN 11)) (C := RX5) (T := TX5) (N := 12) hx hb hts hin5 hown hK hP 1 rfl rfl 11 (by decide) (hw_ hts 6 rfl) (fun _ h9 => h9) rfl dX6_drop_34 ?_
      refine lv_iload_n hx hb dX6_drop_37 rfl (lv_at hl 0 rfl) ?_
      refine va_calli (va_runS (As := [.ref (aN 11), .int v8]) (rest := []) ⟨hx, hb, hml, hown, hts⟩ (met_X6_at l dC dI cI cZ cS (aN 11) 84 (by decide) (S 11) H3.size v8) (va_cwS 2 hts gX6_drop_X6_at rfl rfl rfl (by decide +kernel) ⟨Nat.le_of_ble_eq_true rfl, Nat.le_of_ble_eq_true rfl⟩) (pS (wc := [((aN 11), .inl (cI, 84, .inl (S 11)))]) hK hP hD hN [11] rfl (by decide)) rfl rfl hl.1 rfl (lv_room (Nat.le_of_ble_eq_true rfl)) dX6_drop_38 ⟨Nat.zero_le _, Nat.zero_le _⟩) hS (fun q _ h => a0_in hS hA q h) (a0_in hS hA) (fun r9 u t H4 locs ht hvm hw hB hz1 hk1 hS => ?_)
      subst hw
      have hP := rdk hP hk1
      refine lv_topi (fun v10 hv10 => ?_)
      have hR := bd_n hv10 hR
      refine lv_istore (lv' := [(4, .int v10), (3, .int v8), (0, .ref (aF 0)), (1, .int p1), (2, .int p2)]) hx hb dX6_drop_41 hl (by decide) rfl (fun ls hl => ?_)
      refine lv_iload hx hb dX6_drop_43 (lv_at hl 0 rfl) ?_
      refine lv_iconst (v := (-1 : Int32)) hx hb dX6_drop_45 (by decide) ?_
      refine lv_icmp_ne (tgt := 59) hx hb dX6_drop_46 (by decide) (fun c_11 => ?_) (fun c_11 => ?_)
      · rw [if_neg c_11] at hR
        refine lv_aload_n hx hb dX6_drop_59 rfl (lv_at hl 2 rfl) ?_
        refine va_get (D := (dC, dI)) (ci := 6) (v := .ref (aT 0)) (C := RX6) (T := TX6) (N := 7) hx hb hts hin6 hown hK hP 0 rfl rfl 1 (by decide) (hw_ hts 7 rfl) (fun _ h9 => h9) rfl dX6_drop_60 ?_
        refine lv_aload_n hx hb dX6_drop_63 rfl (lv_at hl 2 rfl) ?_
        refine va_get (D := (dC, dI)) (ci := 6) (v := .ref (aN 0)) (C := RX6) (T := TX6) (N := 7) hx hb hts hin6 hown hK hP 0 rfl rfl 0 (by decide) (hw_ hts 5 rfl) (fun _ h9 => h9) rfl dX6_drop_64 ?_
        have hF := va_free (wc := wSt cI aT R ++ (wSt cI aN S)) hD hS hA [12, 13, 14, 15, 16, 17, 18, 19, 20, 21, 22, 1, 2, 3, 4, 5, 6, 7, 8, 9, 10, 11] rfl
        refine va_callv (va_runV (As := [.ref (aN 0)]) (rest := []) ⟨hx, hb, hml, hown, hts⟩ (met_X5_copyFrom l dC dI cI cZ cS aT aN R S H4.size) (cwV 1 hts gX6_drop_X5_copyFrom rfl rfl rfl (by decide +kernel) ⟨Nat.le_of_ble_eq_true rfl, Nat.le_of_ble_eq_true rfl⟩) (pV (wc := wSt cI aT R ++ (wSt cI aN S)) (ci := 5) (q0 := 12) hK hP hD hN [12, 13, 14, 15, 16, 17, 18, 19, 20, 21, 22, 1, 2, 3, 4, 5, 6, 7, 8, 9, 10, 11] rfl (by decide) rfl rfl) rfl rfl hl.1 rfl (lv_room (Nat.le_of_ble_eq_true rfl)) dX6_drop_67 ⟨Nat.zero_le _, Nat.zero_le _⟩) hS (fun q _ h => hF q h) hF (fun  u12 t H5 locs ht hvm hw hB hz1 hk1 hS => ?_)
        try dsimp only at hw hB
        rw [ht] at hB
        have hR := bd_n hw hR
        have hP := wrk2 (w2 := wFm aF aN aT aL aO aH aP aX ++ (wSt cI aN S ++ (wSt cI aT u12 ++ (wLo cI aL Y ++ (wHi cS aH ah G ++ (wZs cI ah Z)))))) (wr := wFm aF aN aT aL aO aH aP aX ++ (wLo cI aL Y ++ (wHi cS aH ah G ++ (wZs cI ah Z)))) hP hD [12, 13, 14, 15, 16, 17, 18, 19, 20, 21, 22, 1, 2, 3, 4, 5, 6, 7, 8, 9, 10, 11] [0, 23, 24, 25, 26, 27, 28, 29, 30, 31, 32, 33, 34, 35, 36, 37, 38, 39, 40, 41, 42, 43, 44, 45, 46, 47, 48, 49, 50, 51, 52, 53, 54, 55, 56, 57, 58, 59, 60, 61, 62, 63, 64, 65, 66, 67, 68, 69, 70, 71, 72, 73, 74, 75, 76, 77, 78, 79, 80, 81, 82, 83, 84, 85, 86, 87, 88, 89, 90, 91, 92, 93] rfl rfl (by decide) hk1 hB [0, 83, 84, 85, 86, 87, 88, 89, 90, 91, 92, 93, 72, 73, 74, 75, 76, 77, 78, 79, 80, 81, 82, 1, 2, 3, 4, 5, 6, 7, 8, 9, 10, 11, 12, 13, 14, 15, 16, 17, 18, 19, 20, 21, 22, 23, 24, 25, 26, 27, 28, 29, 30, 31, 32, 33, 34, 35, 36, 37, 38, 39, 40, 41, 42, 43, 44, 45, 46, 47, 48, 49, 50, 51, 52, 53, 54, 55, 56, 57, 58, 59, 60, 61, 62, 63, 64, 65, 66, 67, 68, 69, 70, 71] rfl
        have hD := D_addr (w1 := wFm aF aN aT aL aO aH aP aX ++ (wSt cI aN S ++ (wSt cI aT u12 ++ (wLo cI aL Y ++ (wHi cS aH ah G ++ (wZs cI ah Z)))))) hD rfl
        refine lv_aload_n hx hb dX6_drop_70 rfl (lv_at hl 2 rfl) ?_
        refine va_get (D := (dC, dI)) (ci := 6) (v := .ref (aT 0)) (C := RX6) (T := TX6) (N := 7) hx hb hts hin6 hown hK hP 0 rfl rfl 1 (by decide) (hw_ hts 7 rfl) (fun _ h9 => h9) rfl dX6_drop_71 ?_
        refine va_get (D := (dC, dI)) (ci := 5) (v := .ref (aT 11)) (C := RX5) (T := TX5) (N := 12) hx hb hts hin5 hown hK hP 12 rfl rfl 11 (by decide) (hw_ hts 6 rfl) (fun _ h9 => h9) rfl dX6_drop_74 ?_
        refine lv_iload_n hx hb dX6_drop_77 rfl (lv_at hl 1 rfl) ?_
        refine lv_iconst (v := (-1 : Int32)) hx hb dX6_drop_78 (by decide) ?_
        have hF := va_free (wc := [((aT 11), .inl (cI, 84, .inl (u12 11)))]) hD hS hA [22] rfl
        refine va_callv (va_runS (As := [.ref (aT 11), .int v8, .int (-1 : Int32)]) (rest := []) ⟨hx, hb, hml, hown, hts⟩ (met_X6_put l dC dI cI cZ cS (aT 11) 84 (by decide) (u12 11) H5.size v8 (-1 : Int32)) (va_cwS 3 hts gX6_drop_X6_put rfl rfl rfl (by decide +kernel) ⟨Nat.le_of_ble_eq_true rfl, Nat.le_of_ble_eq_true rfl⟩) (pS (wc := [((aT 11), .inl (cI, 84, .inl (u12 11)))]) hK hP hD hN [22] rfl (by decide)) rfl rfl hl.1 rfl (lv_room (Nat.le_of_ble_eq_true rfl)) dX6_drop_79 ⟨Nat.zero_le _, Nat.zero_le _⟩) hS (fun q _ h => hF q h) hF (fun  u13 t H6 locs ht hvm hw hB hz1 hk1 hS => ?_)
        try dsimp only at hw hB
        rw [ht] at hB
        subst hw
        have hP := wrk (w2 := wFm aF aN aT aL aO aH aP aX ++ (wSt cI aN S ++ (wSt cI aT (pset u12 11 (f6_put 84 (u12 11) v8 (-1 : Int32))) ++ (wLo cI aL Y ++ (wHi cS aH ah G ++ (wZs cI ah Z)))))) hP hD [22] rfl (by decide) hk1 hB rfl rfl
        have hD := D_addr (w1 := wFm aF aN aT aL aO aH aP aX ++ (wSt cI aN S ++ (wSt cI aT (pset u12 11 (f6_put 84 (u12 11) v8 (-1 : Int32))) ++ (wLo cI aL Y ++ (wHi cS aH ah G ++ (wZs cI ah Z)))))) hD rfl
        obtain ⟨Rb14, hRb14⟩ : ∃ z : Pic, z = (pset u12 11 (f6_put 84 (u12 11) v8 (-1 : Int32))) := ⟨_, rfl⟩
        rw [← hRb14] at hP hD
        have hR := bd_n hRb14 hR
        refine lv_aload_n hx hb dX6_drop_82 rfl (lv_at hl 2 rfl) ?_
        refine va_get (D := (dC, dI)) (ci := 6) (v := .ref (aL 0)) (C := RX6) (T := TX6) (N := 7) hx hb hts hin6 hown hK hP 0 rfl rfl 2 (by decide) (hw_ hts 8 rfl) (fun _ h9 => h9) rfl dX6_drop_83 ?_
        refine lv_aload_n hx hb dX6_drop_86 rfl (lv_at hl 2 rfl) ?_
        refine va_get (D := (dC, dI)) (ci := 6) (v := .ref (aT 0)) (C := RX6) (T := TX6) (N := 7) hx hb hts hin6 hown hK hP 0 rfl rfl 1 (by decide) (hw_ hts 7 rfl) (fun _ h9 => h9) rfl dX6_drop_87 ?_
        have hF := va_free (wc := wLo cI aL Y ++ (wSt cI aT Rb14)) hD hS hA [23, 24, 25, 12, 13, 14, 15, 16, 17, 18, 19, 20, 21, 22] rfl
        refine va_calli (va_runV (As := [.ref (aT 0)]) (rest := []) ⟨hx, hb, hml, hown, hts⟩ (met_X1_areSound l dC dI cI cZ cS aL aT Y Rb14 H6.size) (cwV 1 hts gX6_drop_X1_areSound rfl rfl rfl (by decide +kernel) ⟨Nat.le_of_ble_eq_true rfl, Nat.le_of_ble_eq_true rfl⟩) (pV (wc := wLo cI aL Y ++ (wSt cI aT Rb14)) (ci := 1) (q0 := 23) hK hP hD hN [23, 24, 25, 12, 13, 14, 15, 16, 17, 18, 19, 20, 21, 22] rfl (by decide) rfl rfl) rfl rfl hl.1 rfl (lv_room (Nat.le_of_ble_eq_true rfl)) dX6_drop_90 ⟨Nat.zero_le _, Nat.zero_le _⟩) hS (fun q _ h => hF q h) hF (fun r15 u16 t H7 locs ht hvm hw hB hz1 hk1 hS => ?_)
        obtain ⟨hw, nb17⟩ := hw
        try dsimp only at hw hB
        rw [ht] at hB
        have hR := bd2_n hw hR
        have hP := wrk2 (w2 := wFm aF aN aT aL aO aH aP aX ++ (wSt cI aN S ++ (wSt cI aT Rb14 ++ (wLo cI aL u16 ++ (wHi cS aH ah G ++ (wZs cI ah Z)))))) (wr := wFm aF aN aT aL aO aH aP aX ++ (wSt cI aN S ++ (wHi cS aH ah G ++ (wZs cI ah Z)))) hP hD [23, 24, 25, 12, 13, 14, 15, 16, 17, 18, 19, 20, 21, 22] [0, 1, 2, 3, 4, 5, 6, 7, 8, 9, 10, 11, 26, 27, 28, 29, 30, 31, 32, 33, 34, 35, 36, 37, 38, 39, 40, 41, 42, 43, 44, 45, 46, 47, 48, 49, 50, 51, 52, 53, 54, 55, 56, 57, 58, 59, 60, 61, 62, 63, 64, 65, 66, 67, 68, 69, 70, 71, 72, 73, 74, 75, 76, 77, 78, 79, 80, 81, 82, 83, 84, 85, 86, 87, 88, 89, 90, 91, 92, 93] rfl rfl (by decide) hk1 hB [0, 1, 2, 3, 4, 5, 6, 7, 8, 9, 10, 11, 83, 84, 85, 86, 87, 88, 89, 90, 91, 92, 93, 80, 81, 82, 12, 13, 14, 15, 16, 17, 18, 19, 20, 21, 22, 23, 24, 25, 26, 27, 28, 29, 30, 31, 32, 33, 34, 35, 36, 37, 38, 39, 40, 41, 42, 43, 44, 45, 46, 47, 48, 49, 50, 51, 52, 53, 54, 55, 56, 57, 58, 59, 60, 61, 62, 63, 64, 65, 66, 67, 68, 69, 70, 71, 72, 73, 74, 75, 76, 77, 78, 79] rfl
        have hD := D_addr (w1 := wFm aF aN aT aL aO aH aP aX ++ (wSt cI aN S ++ (wSt cI aT Rb14 ++ (wLo cI aL u16 ++ (wHi cS aH ah G ++ (wZs cI ah Z)))))) hD rfl
        refine lv_if_ne (tgt := 106) hx hb dX6_drop_93 (by decide) (fun c_18 => ?_) (fun c_18 => ?_)
        · rw [if_neg c_18] at hR
          refine lv_aload_n hx hb dX6_drop_106 rfl (lv_at hl 2 rfl) ?_
          have hF := va_free (wc := wFm aF aN aT aL aO aH aP aX ++ (wSt cI aN S ++ (wSt cI aT Rb14 ++ (wHi cS aH ah G ++ (wZs cI ah Z))))) hD hS hA [0, 1, 2, 3, 4, 5, 6, 7, 8, 9, 10, 11, 12, 13, 14, 15, 16, 17, 18, 19, 20, 21, 22, 26, 27, 28, 29, 30, 31, 32, 33, 34, 35, 36, 37, 38, 39, 40, 41, 42, 43, 44, 45, 46, 47, 48, 49, 50, 51, 52, 53, 54, 55, 56, 57, 58, 59, 60, 61, 62, 63, 64, 65, 66, 67, 68, 69, 70, 71, 72, 73, 74, 75, 76, 77, 78, 79, 80, 81, 82, 83, 84, 85, 86, 87, 88, 89, 90, 91, 92, 93] rfl
          refine va_callv (va_runV (As := []) (rest := []) ⟨hx, hb, hml, hown, hts⟩ (met_X6_takeOverTrial l dC dI cI cZ cS aF aN aT aL aO aH ah aP aX S Rb14 G Z H7.size) (cwV 0 hts gX6_drop_X6_takeOverTrial rfl rfl rfl (by decide +kernel) ⟨Nat.le_of_ble_eq_true rfl, Nat.le_of_ble_eq_true rfl⟩) (pV (wc := wFm aF aN aT aL aO aH aP aX ++ (wSt cI aN S ++ (wSt cI aT Rb14 ++ (wHi cS aH ah G ++ (wZs cI ah Z))))) (ci := 6) (q0 := 0) hK hP hD hN [0, 1, 2, 3, 4, 5, 6, 7, 8, 9, 10, 11, 12, 13, 14, 15, 16, 17, 18, 19, 20, 21, 22, 26, 27, 28, 29, 30, 31, 32, 33, 34, 35, 36, 37, 38, 39, 40, 41, 42, 43, 44, 45, 46, 47, 48, 49, 50, 51, 52, 53, 54, 55, 56, 57, 58, 59, 60, 61, 62, 63, 64, 65, 66, 67, 68, 69, 70, 71, 72, 73, 74, 75, 76, 77, 78, 79, 80, 81, 82, 83, 84, 85, 86, 87, 88, 89, 90, 91, 92, 93] rfl (by decide) rfl rfl) rfl rfl hl.1 rfl (lv_room (Nat.le_of_ble_eq_true rfl)) dX6_drop_107 ⟨Nat.zero_le _, Nat.zero_le _⟩) hS (fun q _ h => hF q h) hF (fun  u t H8 locs ht hvm hw hB hz1 hk1 hS => ?_)
          obtain ⟨u19, u20, u21⟩ := u
          try dsimp only at hw hB
          rw [ht] at hB
          have hR := bd3_n hw hR
          have hP := wrk2 (w2 := wFm aF aN aT aL aO aH aP aX ++ (wSt cI aN u19 ++ (wSt cI aT Rb14 ++ (wLo cI aL u16 ++ (wHi cS aH ah u20 ++ (wZs cI ah u21)))))) (wr := wLo cI aL u16) hP hD [0, 1, 2, 3, 4, 5, 6, 7, 8, 9, 10, 11, 12, 13, 14, 15, 16, 17, 18, 19, 20, 21, 22, 26, 27, 28, 29, 30, 31, 32, 33, 34, 35, 36, 37, 38, 39, 40, 41, 42, 43, 44, 45, 46, 47, 48, 49, 50, 51, 52, 53, 54, 55, 56, 57, 58, 59, 60, 61, 62, 63, 64, 65, 66, 67, 68, 69, 70, 71, 72, 73, 74, 75, 76, 77, 78, 79, 80, 81, 82, 83, 84, 85, 86, 87, 88, 89, 90, 91, 92, 93] [23, 24, 25] rfl rfl (by decide) hk1 hB [3, 4, 5, 6, 7, 8, 9, 10, 11, 12, 13, 14, 15, 16, 17, 18, 19, 20, 21, 22, 23, 24, 25, 0, 1, 2, 26, 27, 28, 29, 30, 31, 32, 33, 34, 35, 36, 37, 38, 39, 40, 41, 42, 43, 44, 45, 46, 47, 48, 49, 50, 51, 52, 53, 54, 55, 56, 57, 58, 59, 60, 61, 62, 63, 64, 65, 66, 67, 68, 69, 70, 71, 72, 73, 74, 75, 76, 77, 78, 79, 80, 81, 82, 83, 84, 85, 86, 87, 88, 89, 90, 91, 92, 93] rfl
          have hD := D_addr (w1 := wFm aF aN aT aL aO aH aP aX ++ (wSt cI aN u19 ++ (wSt cI aT Rb14 ++ (wLo cI aL u16 ++ (wHi cS aH ah u20 ++ (wZs cI ah u21)))))) hD rfl
          refine lv_iload hx hb dX6_drop_110 (lv_at hl 0 rfl) ?_
          exact vx_ret (W.widen (k := 1) (n := 6) (Nat.zero_le _) (Nat.zero_le _) (W.iret (v := v10) hx hb hr (fun t ht hW => ⟨⟨v10, (u19, Rb14, u16, u20, u21), rfl, hR, P_at ht hP⟩, hS.F ht⟩) hS.2.2 dX6_drop_112))
        · rw [if_pos c_18] at hR
          obtain ⟨sa, hsa⟩ := hXW.1 113 (by decide)
          exact vx_throwS (text := strT 113) (sa := sa) (A := A) (names := ["java/lang/RuntimeException", "java/lang/Exception"]) (cls := "java/lang/IllegalStateException") hx hb hfl hown (by decide) (by decide) (hw_ hts 3 rfl) (hw_ hts 4 rfl) hsa (thr_at3 hXW (fun w h => hts w (List.mem_cons_of_mem _ (List.mem_append_right _ h)))) (by decide +kernel) hU hNs hS (hl.1.trans hml.symm) dX6_drop_96 dX6_drop_99 dX6_drop_100 dX6_drop_102 dX6_drop_105 (fun x hx => (htab x hx).elim) (Nat.lt_of_sub_pos (Nat.le_of_ble_eq_true rfl)) (Nat.le_of_ble_eq_true rfl) (Nat.le_of_ble_eq_true rfl) (Nat.le_of_ble_eq_true rfl) hlocks (fun t h1 h2 h3 => ⟨(S, Rb14, u16, G, Z), trivial, ⟨(3 : Int32), rfl, by decide, hR, thr_P hP h3⟩, thr_F hS h2 h3⟩) hS.2.2 (Nat.le_of_ble_eq_true rfl) (Nat.le_of_ble_eq_true rfl)
      · rw [if_pos c_11] at hR
        obtain ⟨sa, hsa⟩ := hXW.1 200 (by decide)
        exact vx_throwS (text := strT 200) (sa := sa) (A := A) (names := ["java/lang/RuntimeException", "java/lang/Exception"]) (cls := "java/lang/IllegalStateException") hx hb hfl hown (by decide) (by decide) (hw_ hts 3 rfl) (hw_ hts 4 rfl) hsa (thr_at3 hXW (fun w h => hts w (List.mem_cons_of_mem _ (List.mem_append_right _ h)))) (by decide +kernel) hU hNs hS (hl.1.trans hml.symm) dX6_drop_49 dX6_drop_52 dX6_drop_53 dX6_drop_55 dX6_drop_58 (fun x hx => (htab x hx).elim) (Nat.lt_of_sub_pos (Nat.le_of_ble_eq_true rfl)) (Nat.le_of_ble_eq_true rfl) (Nat.le_of_ble_eq_true rfl) (Nat.le_of_ble_eq_true rfl) hlocks (fun t h1 h2 h3 => ⟨(S, R, Y, G, Z), trivial, ⟨(3 : Int32), rfl, by decide, hR, thr_P hP h3⟩, thr_F hS h2 h3⟩) hS.2.2 (Nat.le_of_ble_eq_true rfl) (Nat.le_of_ble_eq_true rfl)
    · rw [if_pos c_6] at hR
      obtain ⟨sa, hsa⟩ := hXW.1 198 (by decide)
      exact vx_throwS (text := strT 198) (sa := sa) (A := A) (names := ["java/lang/RuntimeException", "java/lang/Exception"]) (cls := "java/lang/IndexOutOfBoundsException") hx hb hfl hown (by decide) (by decide) (hw_ hts 1 rfl) (hw_ hts 2 rfl) hsa (thr_at1 hXW (fun w h => hts w (List.mem_cons_of_mem _ (List.mem_append_left _ (List.mem_append_right _ h))))) (by decide +kernel) hU hNs hS (hl.1.trans hml.symm) dX6_drop_14 dX6_drop_17 dX6_drop_18 dX6_drop_20 dX6_drop_23 (fun x hx => (htab x hx).elim) (Nat.lt_of_sub_pos (Nat.le_of_ble_eq_true rfl)) (Nat.le_of_ble_eq_true rfl) (Nat.le_of_ble_eq_true rfl) (Nat.le_of_ble_eq_true rfl) hlocks (fun t h1 h2 h3 => ⟨(S, R, Y, G, Z), trivial, ⟨(1 : Int32), rfl, by decide, hR, thr_P hP h3⟩, thr_F hS h2 h3⟩) hS.2.2 (Nat.le_of_ble_eq_true rfl) (Nat.le_of_ble_eq_true rfl)
abbrev rm_X6_exchange : Room := { frames := 6, cells := 1, slots := 6, locals := 143 }
abbrev x_X6_exchange (dC : Nat → ClassId) (dI : Nat → Nat → Nat) (cI cZ cS : ClassId) (aF aN aT aL aO aH : Nat → Nat) (ah : Nat → Nat → Nat) (aP aX : Nat → Nat)  (res : Int32 × Int32 × Pic × Pic × Pic × Pic × (Nat → Pic)) (A : Nat → Prop) : String → State → State → Prop := vx_X (fun (_ : Pic × Pic × Pic × Pic × (Nat → Pic)) => True) (fun E u t => ∃ c : Int32, exN c = E ∧ ¬ c = 0 ∧ (c, (0 : Int32), u) = res ∧ va_P (dC, dI) vwCl (wFm aF aN aT aL aO aH aP aX ++ (wSt cI aN u.1 ++ (wSt cI aT u.2.1 ++ (wLo cI aL u.2.2.1 ++ (wOu aO aN aL ++ (wHi cS aH ah u.2.2.2.1 ++ (wZs cI ah u.2.2.2.2))))))) t.heap) A
abbrev q_X6_exchange (dC : Nat → ClassId) (dI : Nat → Nat → Nat) (cI cZ cS : ClassId) (aF aN aT aL aO aH : Nat → Nat) (ah : Nat → Nat → Nat) (aP aX : Nat → Nat)  (res : Int32 × Int32 × Pic × Pic × Pic × Pic × (Nat → Pic)) (A : Nat → Prop) : Array Value → State → Outcome → State → Prop := va_Qi (fun (r : Int32) (u : Pic × Pic × Pic × Pic × (Nat → Pic)) => ((0 : Int32), r, u) = res) (fun u t => va_P (dC, dI) vwCl (wFm aF aN aT aL aO aH aP aX ++ (wSt cI aN u.1 ++ (wSt cI aT u.2.1 ++ (wLo cI aL u.2.2.1 ++ (wOu aO aN aL ++ (wHi cS aH ah u.2.2.2.1 ++ (wZs cI ah u.2.2.2.2))))))) t.heap) A
set_option maxHeartbeats 4000000 in
set_option maxRecDepth 100000 in
theorem met_X6_exchange (l : Launch) (hfl : l.stackTraces = false) (dC : Nat → ClassId) (dI : Nat → Nat → Nat) (cI cZ cS : ClassId) (aF aN aT aL aO aH : Nat → Nat) (ah : Nat → Nat → Nat) (aP aX : Nat → Nat) (S : Pic) (R : Pic) (Y : Pic) (G : Pic) (Z : (Nat → Pic)) (base sz : Nat) (p1 : Int32) (p2 : Int32) : vx_Met l yX6_exchange wsX6_exchange rm_X6_exchange (va_Pc [.ref (aF 0), .int p1, .int p2] (pX (dC, dI) (tyS cI cZ cS) (wFm aF aN aT aL aO aH aP aX ++ (wSt cI aN S ++ (wSt cI aT R ++ (wLo cI aL Y ++ (wOu aO aN aL ++ (wHi cS aH ah G ++ (wZs cI ah Z))))))) base sz)) (q_X6_exchange dC dI cI cZ cS aF aN aT aL aO aH ah aP aX (f6_exchange S R Y G Z p1 p2) (va_A (wFm aF aN aT aL aO aH aP aX ++ (wSt cI aN S ++ (wSt cI aT R ++ (wLo cI aL Y ++ (wOu aO aN aL ++ (wHi cS aH ah G ++ (wZs cI ah Z))))))) sz)) (x_X6_exchange dC dI cI cZ cS aF aN aT aL aO aH ah aP aX (f6_exchange S R Y G Z p1 p2) (va_A (wFm aF aN aT aL aO aH aP aX ++ (wSt cI aN S ++ (wSt cI aT R ++ (wLo cI aL Y ++ (wOu aO aN aL ++ (wHi cS aH ah G ++ (wZs cI ah Z))))))) sz)) 1 6 (va_A (wFm aF aN aT aL aO aH aP aX ++ (wSt cI aN S ++ (wSt cI aT R ++ (wLo cI aL Y ++ (wOu aO aN aL ++ (wHi cS aH ah G ++ (wZs cI ah Z))))))) sz) := by
  refine vx_ofW (cc := cX6_exchange) (maxL := 3) (ret := (some .int)) (by decide) rfl ?_
  intro p e s m args below meth c s₁ B hml htab hv
  obtain ⟨rfl, hsz, hP, hK, hD0, hN, hbs, hXW⟩ := hv
  have hx := B.exec
  have hb := B.bytes
  have hr := B.returns
  have hts := atoms_spec (ws := wsX6_exchange) B.pre
  have hown : s.vm.findClass RX6 = some m.cls := findClass_of_methodNamed B.named
  have hlocks := B.notSynchronized
  subst hsz
  have hD := hD0.self (sz := s.heap.size)
  generalize hAe : va_A (wFm aF aN aT aL aO aH aP aX ++ (wSt cI aN S ++ (wSt cI aT R ++ (wLo cI aL Y ++ (wOu aO aN aL ++ (wHi cS aH ah G ++ (wZs cI ah Z))))))) s.heap.size = A at hD ⊢
  have hA : ∀ q : Nat, s.heap.size ≤ q → A q := fun q h => by rw [← hAe]; exact Or.inr h
  have hS : va_S A s.heap s.heap [] := va_S.rf
  have hAb : ∀ q, A q → base ≤ q := fun q h => by rw [← hAe] at h; exact base_of hD0 hbs q h
  have hU := hXW.2.1.narrow hAb
  have hNs := hXW.2.2.1.narrow hAb
  have hP : va_P (dC, dI) vwCl (wFm aF aN aT aL aO aH aP aX ++ (wSt cI aN S ++ (wSt cI aT R ++ (wLo cI aL Y ++ (wOu aO aN aL ++ (wHi cS aH ah G ++ (wZs cI ah Z))))))) s.heap := hP
  generalize hR : f6_exchange S R Y G Z p1 p2 = res
  rw [f6_exchange] at hR
  have hin6 : ∀ w ∈ wsX60, w ∈ wsX6_exchange := by decide +kernel
  have hl := lv_entry ([.ref (aF 0), .int p1, .int p2]) (n := 3) (Nat.le_of_ble_eq_true rfl)
  rw [lg_entry_eq]
  generalize (lg_sl ([.ref (aF 0), .int p1, .int p2]) ++ List.replicate (3 - (lg_sl ([.ref (aF 0), .int p1, .int p2])).length) Slot.unset).toArray = ls at hl ⊢
  have hl : lv_has ls 3 [(0, .ref (aF 0)), (1, .int p1), (2, .int p2)] := hl
  refine lv_iload_n hx hb dX6_exchange_0 rfl (lv_at hl 1 rfl) ?_
  refine va_calli (va_runS (As := [.int p1]) (rest := []) ⟨hx, hb, hml, hown, hts⟩ (met_X6_isDay l dC dI cI cZ cS s.heap.size p1) (va_cwS 1 hts gX6_exchange_X6_isDay rfl rfl rfl (by decide +kernel) ⟨Nat.le_of_ble_eq_true rfl, Nat.le_of_ble_eq_true rfl⟩) (pS (wc := []) hK hP hD hN [] rfl (by decide)) rfl rfl hl.1 rfl (lv_room (Nat.le_of_ble_eq_true rfl)) dX6_exchange_1 ⟨Nat.zero_le _, Nat.zero_le _⟩) hS (fun q _ h => a0_in hS hA q h) (a0_in hS hA) (fun r1 u t H1 locs ht hvm hw hB hz1 hk1 hS => ?_)
  obtain ⟨hw, nb2⟩ := hw
  subst hw
  have hP := rdk hP hk1
  refine lv_if_eq (tgt := 14) hx hb dX6_exchange_4 (by decide) (fun c_3 => ?_) (fun c_3 => ?_)
  · rw [if_pos c_3] at hR
    obtain ⟨sa, hsa⟩ := hXW.1 202 (by decide)
    exact vx_throwS (text := strT 202) (sa := sa) (A := A) (names := ["java/lang/RuntimeException", "java/lang/Exception"]) (cls := "java/lang/IndexOutOfBoundsException") hx hb hfl hown (by decide) (by decide) (hw_ hts 1 rfl) (hw_ hts 2 rfl) hsa (thr_at1 hXW (fun w h => hts w (List.mem_cons_of_mem _ (List.mem_append_left _ (List.mem_append_right _ h))))) (by decide +kernel) hU hNs hS (hl.1.trans hml.symm) dX6_exchange_14 dX6_exchange_17 dX6_exchange_18 dX6_exchange_20 dX6_exchange_23 (fun x hx => (htab x hx).elim) (Nat.lt_of_sub_pos (Nat.le_of_ble_eq_true rfl)) (Nat.le_of_ble_eq_true rfl) (Nat.le_of_ble_eq_true rfl) (Nat.le_of_ble_eq_true rfl) hlocks (fun t h1 h2 h3 => ⟨(S, R, Y, G, Z), trivial, ⟨(1 : Int32), rfl, by decide, hR, thr_P hP h3⟩, thr_F hS h2 h3⟩) hS.2.2 (Nat.le_of_ble_eq_true rfl) (Nat.le_of_ble_eq_true rfl)
  · rw [if_neg c_3] at hR
    refine lv_iload_n hx hb dX6_exchange_7 rfl (lv_at hl 2 rfl) ?_
    refine va_calli (va_runS (As := [.int p2]) (rest := []) ⟨hx, hb, hml, hown, hts⟩ (met_X6_isDay l dC dI cI cZ cS H1.size p2) (va_cwS 1 hts gX6_exchange_X6_isDay rfl rfl rfl (by decide +kernel) ⟨Nat.le_of_ble_eq_true rfl, Nat.le_of_ble_eq_true rfl⟩) (pS (wc := []) hK hP hD hN [] rfl (by decide)) rfl rfl hl.1 rfl (lv_room (Nat.le_of_ble_eq_true rfl)) dX6_exchange_8 ⟨Nat.zero_le _, Nat.zero_le _⟩) hS (fun q _ h => a0_in hS hA q h) (a0_in hS hA) (fun r4 u t H2 locs ht hvm hw hB hz1 hk1 hS => ?_)
    obtain ⟨hw, nb5⟩ := hw
    subst hw
    have hP := rdk hP hk1
    refine lv_if_ne (tgt := 24) hx hb dX6_exchange_11 (by decide) (fun c_6 => ?_) (fun c_6 => ?_)
    · rw [if_neg c_6] at hR
      refine lv_aload_n hx hb dX6_exchange_24 rfl (lv_at hl 0 rfl) ?_
      refine va_get (D := (dC, dI)) (ci := 6) (v := .ref (aT 0)) (C := RX6) (T := TX6) (N := 7) hx hb hts hin6 hown hK hP 0 rfl rfl 1 (by decide) (hw_ hts 5 rfl) (fun _ h9 => h9) rfl dX6_exchange_25 ?_
      refine lv_aload_n hx hb dX6_exchange_28 rfl (lv_at hl 0 rfl) ?_
      refine va_get (D := (dC, dI)) (ci := 6) (v := .ref (aN 0)) (C := RX6) (T := TX6) (N := 7) hx hb hts hin6 hown hK hP 0 rfl rfl 0 (by decide) (hw_ hts 6 rfl) (fun _ h9 => h9) rfl dX6_exchange_29 ?_
      have hF := va_free (wc := wSt cI aT R ++ (wSt cI aN S)) hD hS hA [12, 13, 14, 15, 16, 17, 18, 19, 20, 21, 22, 1, 2, 3, 4, 5, 6, 7, 8, 9, 10, 11] rfl
      refine va_callv (va_runV (As := [.ref (aN 0)]) (rest := []) ⟨hx, hb, hml, hown, hts⟩ (met_X5_copyFrom l dC dI cI cZ cS aT aN R S H2.size) (cwV 1 hts gX6_exchange_X5_copyFrom rfl rfl rfl (by decide +kernel) ⟨Nat.le_of_ble_eq_true rfl, Nat.le_of_ble_eq_true rfl⟩) (pV (wc := wSt cI aT R ++ (wSt cI aN S)) (ci := 5) (q0 := 12) hK hP hD hN [12, 13, 14, 15, 16, 17, 18, 19, 20, 21, 22, 1, 2, 3, 4, 5, 6, 7, 8, 9, 10, 11] rfl (by decide) rfl rfl) rfl rfl hl.1 rfl (lv_room (Nat.le_of_ble_eq_true rfl)) dX6_exchange_32 ⟨Nat.zero_le _, Nat.zero_le _⟩) hS (fun q _ h => hF q h) hF (fun  u7 t H3 locs ht hvm hw hB hz1 hk1 hS => ?_)
      try dsimp only at hw hB
      rw [ht] at hB
      have hR := bd_n hw hR
      have hP := wrk2 (w2 := wFm aF aN aT aL aO aH aP aX ++ (wSt cI aN S ++ (wSt cI aT u7 ++ (wLo cI aL Y ++ (wOu aO aN aL ++ (wHi cS aH ah G ++ (wZs cI ah Z))))))) (wr := wFm aF aN aT aL aO aH aP aX ++ (wLo cI aL Y ++ (wOu aO aN aL ++ (wHi cS aH ah G ++ (wZs cI ah Z))))) hP hD [12, 13, 14, 15, 16, 17, 18, 19, 20, 21, 22, 1, 2, 3, 4, 5, 6, 7, 8, 9, 10, 11] [0, 23, 24, 25, 26, 27, 28, 29, 30, 31, 32, 33, 34, 35, 36, 37, 38, 39, 40, 41, 42, 43, 44, 45, 46, 47, 48, 49, 50, 51, 52, 53, 54, 55, 56, 57, 58, 59, 60, 61, 62, 63, 64, 65, 66, 67, 68, 69, 70, 71, 72, 73, 74, 75, 76, 77, 78, 79, 80, 81, 82, 83, 84, 85, 86, 87, 88, 89, 90, 91, 92, 93, 94] rfl rfl (by decide) hk1 hB [0, 84, 85, 86, 87, 88, 89, 90, 91, 92, 93, 94, 73, 74, 75, 76, 77, 78, 79, 80, 81, 82, 83, 1, 2, 3, 4, 5, 6, 7, 8, 9, 10, 11, 12, 13, 14, 15, 16, 17, 18, 19, 20, 21, 22, 23, 24, 25, 26, 27, 28, 29, 30, 31, 32, 33, 34, 35, 36, 37, 38, 39, 40, 41, 42, 43, 44, 45, 46, 47, 48, 49, 50, 51, 52, 53, 54, 55, 56, 57, 58, 59, 60, 61, 62, 63, 64, 65, 66, 67, 68, 69, 70, 71, 72] rfl
      have hD := D_addr (w1 := wFm aF aN aT aL aO aH aP aX ++ (wSt cI aN S ++ (wSt cI aT u7 ++ (wLo cI aL Y ++ (wOu aO aN aL ++ (wHi cS aH ah G ++ (wZs cI ah Z))))))) hD rfl
      refine lv_aload_n hx hb dX6_exchange_35 rfl (lv_at hl 0 rfl) ?_
      refine va_get (D := (dC, dI)) (ci := 6) (v := .ref (aT 0)) (C := RX6) (T := TX6) (N := 7) hx hb hts hin6 hown hK hP 0 rfl rfl 1 (by decide) (hw_ hts 5 rfl) (fun _ h9 => h9) rfl dX6_exchange_36 ?_
      refine lv_iload_n hx hb dX6_exchange_39 rfl (lv_at hl 1 rfl) ?_
      refine lv_iload_n hx hb dX6_exchange_40 rfl (lv_at hl 2 rfl) ?_
      have hF := va_free (wc := wSt cI aT u7) hD hS hA [12, 13, 14, 15, 16, 17, 18, 19, 20, 21, 22] rfl
      refine va_callv (va_runV (As := [.int p1, .int p2]) (rest := []) ⟨hx, hb, hml, hown, hts⟩ (met_X5_exchangeMeals l dC dI cI cZ cS aT u7 H3.size p1 p2) (cwV 2 hts gX6_exchange_X5_exchangeMeals rfl rfl rfl (by decide +kernel) ⟨Nat.le_of_ble_eq_true rfl, Nat.le_of_ble_eq_true rfl⟩) (pV (wc := wSt cI aT u7) (ci := 5) (q0 := 12) hK hP hD hN [12, 13, 14, 15, 16, 17, 18, 19, 20, 21, 22] rfl (by decide) rfl rfl) rfl rfl hl.1 rfl (lv_room (Nat.le_of_ble_eq_true rfl)) dX6_exchange_41 ⟨Nat.zero_le _, Nat.zero_le _⟩) hS (fun q _ h => hF q h) hF (fun  u8 t H4 locs ht hvm hw hB hz1 hk1 hS => ?_)
      try dsimp only at hw hB
      rw [ht] at hB
      have hR := bd_n hw hR
      have hP := wrk2 (w2 := wFm aF aN aT aL aO aH aP aX ++ (wSt cI aN S ++ (wSt cI aT u8 ++ (wLo cI aL Y ++ (wOu aO aN aL ++ (wHi cS aH ah G ++ (wZs cI ah Z))))))) (wr := wFm aF aN aT aL aO aH aP aX ++ (wSt cI aN S ++ (wLo cI aL Y ++ (wOu aO aN aL ++ (wHi cS aH ah G ++ (wZs cI ah Z)))))) hP hD [12, 13, 14, 15, 16, 17, 18, 19, 20, 21, 22] [0, 1, 2, 3, 4, 5, 6, 7, 8, 9, 10, 11, 23, 24, 25, 26, 27, 28, 29, 30, 31, 32, 33, 34, 35, 36, 37, 38, 39, 40, 41, 42, 43, 44, 45, 46, 47, 48, 49, 50, 51, 52, 53, 54, 55, 56, 57, 58, 59, 60, 61, 62, 63, 64, 65, 66, 67, 68, 69, 70, 71, 72, 73, 74, 75, 76, 77, 78, 79, 80, 81, 82, 83, 84, 85, 86, 87, 88, 89, 90, 91, 92, 93, 94] rfl rfl (by decide) hk1 hB [0, 1, 2, 3, 4, 5, 6, 7, 8, 9, 10, 11, 84, 85, 86, 87, 88, 89, 90, 91, 92, 93, 94, 12, 13, 14, 15, 16, 17, 18, 19, 20, 21, 22, 23, 24, 25, 26, 27, 28, 29, 30, 31, 32, 33, 34, 35, 36, 37, 38, 39, 40, 41, 42, 43, 44, 45, 46, 47, 48, 49, 50, 51, 52, 53, 54, 55, 56, 57, 58, 59, 60, 61, 62, 63, 64, 65, 66, 67, 68, 69, 70, 71, 72, 73, 74, 75, 76, 77, 78, 79, 80, 81, 82, 83] rfl
      have hD := D_addr (w1 := wFm aF aN aT aL aO aH aP aX ++ (wSt cI aN S ++ (wSt cI aT u8 ++ (wLo cI aL Y ++ (wOu aO aN aL ++ (wHi cS aH ah G ++ (wZs cI ah Z))))))) hD rfl
      refine lv_aload_n hx hb dX6_exchange_44 rfl (lv_at hl 0 rfl) ?_
      refine lv_aload_n hx hb dX6_exchange_45 rfl (lv_at hl 0 rfl) ?_
      refine va_get (D := (dC, dI)) (ci := 6) (v := .ref (aT 0)) (C := RX6) (T := TX6) (N := 7) hx hb hts hin6 hown hK hP 0 rfl rfl 1 (by decide) (hw_ hts 5 rfl) (fun _ h9 => h9) rfl dX6_exchange_46 ?_
      have hF := va_free (wc := wFm aF aN aT aL aO aH aP aX ++ (wSt cI aT u8 ++ (wLo cI aL Y))) hD hS hA [0, 12, 13, 14, 15, 16, 17, 18, 19, 20, 21, 22, 23, 24, 25] rfl
      refine va_calli (va_runV (As := [.ref (aT 0)]) (rest := []) ⟨hx, hb, hml, hown, hts⟩ (met_X6_canStand l dC dI cI cZ cS aF aN aT aL aO aH ah aP aX u8 Y H4.size) (cwV 1 hts gX6_exchange_X6_canStand rfl rfl rfl (by decide +kernel) ⟨Nat.le_of_ble_eq_true rfl, Nat.le_of_ble_eq_true rfl⟩) (pV (wc := wFm aF aN aT aL aO aH aP aX ++ (wSt cI aT u8 ++ (wLo cI aL Y))) (ci := 6) (q0 := 0) hK hP hD hN [0, 12, 13, 14, 15, 16, 17, 18, 19, 20, 21, 22, 23, 24, 25] rfl (by decide) rfl rfl) rfl rfl hl.1 rfl (lv_room (Nat.le_of_ble_eq_true rfl)) dX6_exchange_49 ⟨Nat.zero_le _, Nat.zero_le _⟩) hS (fun q _ h => hF q h) hF (fun r9 u10 t H5 locs ht hvm hw hB hz1 hk1 hS => ?_)
      obtain ⟨hw, nb11⟩ := hw
      try dsimp only at hw hB
      rw [ht] at hB
      have hR := bd2_n hw hR
      have hP := wrk2 (w2 := wFm aF aN aT aL aO aH aP aX ++ (wSt cI aN S ++ (wSt cI aT u8 ++ (wLo cI aL u10 ++ (wOu aO aN aL ++ (wHi cS aH ah G ++ (wZs cI ah Z))))))) (wr := wSt cI aN S ++ (wOu aO aN aL ++ (wHi cS aH ah G ++ (wZs cI ah Z)))) hP hD [0, 12, 13, 14, 15, 16, 17, 18, 19, 20, 21, 22, 23, 24, 25] [1, 2, 3, 4, 5, 6, 7, 8, 9, 10, 11, 26, 27, 28, 29, 30, 31, 32, 33, 34, 35, 36, 37, 38, 39, 40, 41, 42, 43, 44, 45, 46, 47, 48, 49, 50, 51, 52, 53, 54, 55, 56, 57, 58, 59, 60, 61, 62, 63, 64, 65, 66, 67, 68, 69, 70, 71, 72, 73, 74, 75, 76, 77, 78, 79, 80, 81, 82, 83, 84, 85, 86, 87, 88, 89, 90, 91, 92, 93, 94] rfl rfl (by decide) hk1 hB [80, 0, 1, 2, 3, 4, 5, 6, 7, 8, 9, 10, 81, 82, 83, 84, 85, 86, 87, 88, 89, 90, 91, 92, 93, 94, 11, 12, 13, 14, 15, 16, 17, 18, 19, 20, 21, 22, 23, 24, 25, 26, 27, 28, 29, 30, 31, 32, 33, 34, 35, 36, 37, 38, 39, 40, 41, 42, 43, 44, 45, 46, 47, 48, 49, 50, 51, 52, 53, 54, 55, 56, 57, 58, 59, 60, 61, 62, 63, 64, 65, 66, 67, 68, 69, 70, 71, 72, 73, 74, 75, 76, 77, 78, 79] rfl
      have hD := D_addr (w1 := wFm aF aN aT aL aO aH aP aX ++ (wSt cI aN S ++ (wSt cI aT u8 ++ (wLo cI aL u10 ++ (wOu aO aN aL ++ (wHi cS aH ah G ++ (wZs cI ah Z))))))) hD rfl
      refine lv_if_ne (tgt := 65) hx hb dX6_exchange_52 (by decide) (fun c_12 => ?_) (fun c_12 => ?_)
      · rw [if_neg c_12] at hR
        refine lv_aload_n hx hb dX6_exchange_65 rfl (lv_at hl 0 rfl) ?_
        have hF := va_free (wc := wFm aF aN aT aL aO aH aP aX ++ (wSt cI aN S ++ (wSt cI aT u8 ++ (wHi cS aH ah G ++ (wZs cI ah Z))))) hD hS hA [0, 1, 2, 3, 4, 5, 6, 7, 8, 9, 10, 11, 12, 13, 14, 15, 16, 17, 18, 19, 20, 21, 22, 27, 28, 29, 30, 31, 32, 33, 34, 35, 36, 37, 38, 39, 40, 41, 42, 43, 44, 45, 46, 47, 48, 49, 50, 51, 52, 53, 54, 55, 56, 57, 58, 59, 60, 61, 62, 63, 64, 65, 66, 67, 68, 69, 70, 71, 72, 73, 74, 75, 76, 77, 78, 79, 80, 81, 82, 83, 84, 85, 86, 87, 88, 89, 90, 91, 92, 93, 94] rfl
        refine va_callv (va_runV (As := []) (rest := []) ⟨hx, hb, hml, hown, hts⟩ (met_X6_takeOverTrial l dC dI cI cZ cS aF aN aT aL aO aH ah aP aX S u8 G Z H5.size) (cwV 0 hts gX6_exchange_X6_takeOverTrial rfl rfl rfl (by decide +kernel) ⟨Nat.le_of_ble_eq_true rfl, Nat.le_of_ble_eq_true rfl⟩) (pV (wc := wFm aF aN aT aL aO aH aP aX ++ (wSt cI aN S ++ (wSt cI aT u8 ++ (wHi cS aH ah G ++ (wZs cI ah Z))))) (ci := 6) (q0 := 0) hK hP hD hN [0, 1, 2, 3, 4, 5, 6, 7, 8, 9, 10, 11, 12, 13, 14, 15, 16, 17, 18, 19, 20, 21, 22, 27, 28, 29, 30, 31, 32, 33, 34, 35, 36, 37, 38, 39, 40, 41, 42, 43, 44, 45, 46, 47, 48, 49, 50, 51, 52, 53, 54, 55, 56, 57, 58, 59, 60, 61, 62, 63, 64, 65, 66, 67, 68, 69, 70, 71, 72, 73, 74, 75, 76, 77, 78, 79, 80, 81, 82, 83, 84, 85, 86, 87, 88, 89, 90, 91, 92, 93, 94] rfl (by decide) rfl rfl) rfl rfl hl.1 rfl (lv_room (Nat.le_of_ble_eq_true rfl)) dX6_exchange_66 ⟨Nat.zero_le _, Nat.zero_le _⟩) hS (fun q _ h => hF q h) hF (fun  u t H6 locs ht hvm hw hB hz1 hk1 hS => ?_)
        obtain ⟨u13, u14, u15⟩ := u
        try dsimp only at hw hB
        rw [ht] at hB
        have hR := bd3_n hw hR
        have hP := wrk2 (w2 := wFm aF aN aT aL aO aH aP aX ++ (wSt cI aN u13 ++ (wSt cI aT u8 ++ (wLo cI aL u10 ++ (wOu aO aN aL ++ (wHi cS aH ah u14 ++ (wZs cI ah u15))))))) (wr := wLo cI aL u10 ++ (wOu aO aN aL)) hP hD [0, 1, 2, 3, 4, 5, 6, 7, 8, 9, 10, 11, 12, 13, 14, 15, 16, 17, 18, 19, 20, 21, 22, 27, 28, 29, 30, 31, 32, 33, 34, 35, 36, 37, 38, 39, 40, 41, 42, 43, 44, 45, 46, 47, 48, 49, 50, 51, 52, 53, 54, 55, 56, 57, 58, 59, 60, 61, 62, 63, 64, 65, 66, 67, 68, 69, 70, 71, 72, 73, 74, 75, 76, 77, 78, 79, 80, 81, 82, 83, 84, 85, 86, 87, 88, 89, 90, 91, 92, 93, 94] [23, 24, 25, 26] rfl rfl (by decide) hk1 hB [4, 5, 6, 7, 8, 9, 10, 11, 12, 13, 14, 15, 16, 17, 18, 19, 20, 21, 22, 23, 24, 25, 26, 0, 1, 2, 3, 27, 28, 29, 30, 31, 32, 33, 34, 35, 36, 37, 38, 39, 40, 41, 42, 43, 44, 45, 46, 47, 48, 49, 50, 51, 52, 53, 54, 55, 56, 57, 58, 59, 60, 61, 62, 63, 64, 65, 66, 67, 68, 69, 70, 71, 72, 73, 74, 75, 76, 77, 78, 79, 80, 81, 82, 83, 84, 85, 86, 87, 88, 89, 90, 91, 92, 93, 94] rfl
        have hD := D_addr (w1 := wFm aF aN aT aL aO aH aP aX ++ (wSt cI aN u13 ++ (wSt cI aT u8 ++ (wLo cI aL u10 ++ (wOu aO aN aL ++ (wHi cS aH ah u14 ++ (wZs cI ah u15))))))) hD rfl
        refine lv_aload_n hx hb dX6_exchange_69 rfl (lv_at hl 0 rfl) ?_
        refine va_get (D := (dC, dI)) (ci := 6) (v := .ref (aO 0)) (C := RX6) (T := TX6) (N := 7) hx hb hts hin6 hown hK hP 0 rfl rfl 3 (by decide) (hw_ hts 7 rfl) (fun _ h9 => h9) rfl dX6_exchange_70 ?_
        refine va_calli (va_runV (As := []) (rest := []) ⟨hx, hb, hml, hown, hts⟩ (met_X2_joyOfPlan l dC dI cI cZ cS aO aL aN u10 u13 H6.size) (cwV 0 hts gX6_exchange_X2_joyOfPlan rfl rfl rfl (by decide +kernel) ⟨Nat.le_of_ble_eq_true rfl, Nat.le_of_ble_eq_true rfl⟩) (pV (wc := wOu aO aN aL ++ (wLo cI aL u10 ++ (wSt cI aN u13))) (ci := 2) (q0 := 26) hK hP hD hN [26, 23, 24, 25, 1, 2, 3, 4, 5, 6, 7, 8, 9, 10, 11] rfl (by decide) rfl rfl) rfl rfl hl.1 rfl (lv_room (Nat.le_of_ble_eq_true rfl)) dX6_exchange_73 ⟨Nat.zero_le _, Nat.zero_le _⟩) hS (fun q _ h => a0_in hS hA q h) (a0_in hS hA) (fun r16 u t H7 locs ht hvm hw hB hz1 hk1 hS => ?_)
        have hR := bd_n hw hR
        have hP := rdk hP hk1
        exact vx_ret (W.widen (k := 1) (n := 6) (Nat.zero_le _) (Nat.zero_le _) (W.iret (v := r16) hx hb hr (fun t ht hW => ⟨⟨r16, (u13, u8, u10, u14, u15), rfl, hR, P_at ht hP⟩, hS.F ht⟩) hS.2.2 dX6_exchange_76))
      · rw [if_pos c_12] at hR
        obtain ⟨sa, hsa⟩ := hXW.1 211 (by decide)
        exact vx_throwS (text := strT 211) (sa := sa) (A := A) (names := ["java/lang/RuntimeException", "java/lang/Exception"]) (cls := "java/lang/IllegalStateException") hx hb hfl hown (by decide) (by decide) (hw_ hts 3 rfl) (hw_ hts 4 rfl) hsa (thr_at3 hXW (fun w h => hts w (List.mem_cons_of_mem _ (List.mem_append_right _ h)))) (by decide +kernel) hU hNs hS (hl.1.trans hml.symm) dX6_exchange_55 dX6_exchange_58 dX6_exchange_59 dX6_exchange_61 dX6_exchange_64 (fun x hx => (htab x hx).elim) (Nat.lt_of_sub_pos (Nat.le_of_ble_eq_true rfl)) (Nat.le_of_ble_eq_true rfl) (Nat.le_of_ble_eq_true rfl) (Nat.le_of_ble_eq_true rfl) hlocks (fun t h1 h2 h3 => ⟨(S, u8, u10, G, Z), trivial, ⟨(3 : Int32), rfl, by decide, hR, thr_P hP h3⟩, thr_F hS h2 h3⟩) hS.2.2 (Nat.le_of_ble_eq_true rfl) (Nat.le_of_ble_eq_true rfl)
    · rw [if_pos c_6] at hR
      obtain ⟨sa, hsa⟩ := hXW.1 202 (by decide)
      exact vx_throwS (text := strT 202) (sa := sa) (A := A) (names := ["java/lang/RuntimeException", "java/lang/Exception"]) (cls := "java/lang/IndexOutOfBoundsException") hx hb hfl hown (by decide) (by decide) (hw_ hts 1 rfl) (hw_ hts 2 rfl) hsa (thr_at1 hXW (fun w h => hts w (List.mem_cons_of_mem _ (List.mem_append_left _ (List.mem_append_right _ h))))) (by decide +kernel) hU hNs hS (hl.1.trans hml.symm) dX6_exchange_14 dX6_exchange_17 dX6_exchange_18 dX6_exchange_20 dX6_exchange_23 (fun x hx => (htab x hx).elim) (Nat.lt_of_sub_pos (Nat.le_of_ble_eq_true rfl)) (Nat.le_of_ble_eq_true rfl) (Nat.le_of_ble_eq_true rfl) (Nat.le_of_ble_eq_true rfl) hlocks (fun t h1 h2 h3 => ⟨(S, R, Y, G, Z), trivial, ⟨(1 : Int32), rfl, by decide, hR, thr_P hP h3⟩, thr_F hS h2 h3⟩) hS.2.2 (Nat.le_of_ble_eq_true rfl) (Nat.le_of_ble_eq_true rfl)
