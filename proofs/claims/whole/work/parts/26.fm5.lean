abbrev rm_X6_restore : Room := { frames := 6, cells := 1, slots := 6, locals := 143 }
abbrev x_X6_restore (dC : Nat → ClassId) (dI : Nat → Nat → Nat) (cI cZ cS : ClassId) (aF aN aT aL aO aH : Nat → Nat) (ah : Nat → Nat → Nat) (aP aX : Nat → Nat) (N : Pic) (res : Int32 × Int32 × Pic × Pic × Pic × Pic × (Nat → Pic)) (A : Nat → Prop) : String → State → State → Prop := vx_X (fun (_ : Pic × Pic × Pic × Pic × (Nat → Pic)) => True) (fun E u t => ∃ c : Int32, exN c = E ∧ ¬ c = 0 ∧ (c, (0 : Int32), u) = res ∧ va_P (dC, dI) vwCl (wFm aF aN aT aL aO aH aP aX ++ (wSt cI aN u.1 ++ (wSt cI aT u.2.1 ++ (wLo cI aL u.2.2.1 ++ (wHi cS aH ah u.2.2.2.1 ++ (wZs cI ah u.2.2.2.2 ++ (wSn cI cZ aP N))))))) t.heap) A
abbrev q_X6_restore (dC : Nat → ClassId) (dI : Nat → Nat → Nat) (cI cZ cS : ClassId) (aF aN aT aL aO aH : Nat → Nat) (ah : Nat → Nat → Nat) (aP aX : Nat → Nat) (N : Pic) (res : Int32 × Int32 × Pic × Pic × Pic × Pic × (Nat → Pic)) (A : Nat → Prop) : Array Value → State → Outcome → State → Prop := va_Qi (fun (r : Int32) (u : Pic × Pic × Pic × Pic × (Nat → Pic)) => ((0 : Int32), r, u) = res) (fun u t => va_P (dC, dI) vwCl (wFm aF aN aT aL aO aH aP aX ++ (wSt cI aN u.1 ++ (wSt cI aT u.2.1 ++ (wLo cI aL u.2.2.1 ++ (wHi cS aH ah u.2.2.2.1 ++ (wZs cI ah u.2.2.2.2 ++ (wSn cI cZ aP N))))))) t.heap) A
set_option maxHeartbeats 4000000 in
set_option maxRecDepth 100000 in
theorem met_X6_restore (l : Launch) (hfl : l.stackTraces = false) (dC : Nat → ClassId) (dI : Nat → Nat → Nat) (cI cZ cS : ClassId) (aF aN aT aL aO aH : Nat → Nat) (ah : Nat → Nat → Nat) (aP aX : Nat → Nat) (S : Pic) (R : Pic) (Y : Pic) (G : Pic) (Z : (Nat → Pic)) (N : Pic) (base sz : Nat) (p1 : Int32) : vx_Met l yX6_restore wsX6_restore rm_X6_restore (va_Pc [.ref (aF 0), .int p1] (pX (dC, dI) (tyS cI cZ cS) (wFm aF aN aT aL aO aH aP aX ++ (wSt cI aN S ++ (wSt cI aT R ++ (wLo cI aL Y ++ (wHi cS aH ah G ++ (wZs cI ah Z ++ (wSn cI cZ aP N))))))) base sz)) (q_X6_restore dC dI cI cZ cS aF aN aT aL aO aH ah aP aX N (f6_restore S R Y G Z N p1) (va_A (wFm aF aN aT aL aO aH aP aX ++ (wSt cI aN S ++ (wSt cI aT R ++ (wLo cI aL Y ++ (wHi cS aH ah G ++ (wZs cI ah Z ++ (wSn cI cZ aP N))))))) sz)) (x_X6_restore dC dI cI cZ cS aF aN aT aL aO aH ah aP aX N (f6_restore S R Y G Z N p1) (va_A (wFm aF aN aT aL aO aH aP aX ++ (wSt cI aN S ++ (wSt cI aT R ++ (wLo cI aL Y ++ (wHi cS aH ah G ++ (wZs cI ah Z ++ (wSn cI cZ aP N))))))) sz)) 1 6 (va_A (wFm aF aN aT aL aO aH aP aX ++ (wSt cI aN S ++ (wSt cI aT R ++ (wLo cI aL Y ++ (wHi cS aH ah G ++ (wZs cI ah Z ++ (wSn cI cZ aP N))))))) sz) := by
  refine vx_ofW (cc := cX6_restore) (maxL := 2) (ret := (some .int)) (by decide) rfl ?_
  intro p e s m args below meth c s₁ B hml htab hv
  obtain ⟨rfl, hsz, hP, hK, hD0, hN, hbs, hXW⟩ := hv
  have hx := B.exec
  have hb := B.bytes
  have hr := B.returns
  have hts := atoms_spec (ws := wsX6_restore) B.pre
  have hown : s.vm.findClass RX6 = some m.cls := findClass_of_methodNamed B.named
  have hlocks := B.notSynchronized
  subst hsz
  have hD := hD0.self (sz := s.heap.size)
  generalize hAe : va_A (wFm aF aN aT aL aO aH aP aX ++ (wSt cI aN S ++ (wSt cI aT R ++ (wLo cI aL Y ++ (wHi cS aH ah G ++ (wZs cI ah Z ++ (wSn cI cZ aP N))))))) s.heap.size = A at hD ⊢
  have hA : ∀ q : Nat, s.heap.size ≤ q → A q := fun q h => by rw [← hAe]; exact Or.inr h
  have hS : va_S A s.heap s.heap [] := va_S.rf
  have hAb : ∀ q, A q → base ≤ q := fun q h => by rw [← hAe] at h; exact base_of hD0 hbs q h
  have hU := hXW.2.1.narrow hAb
  have hNs := hXW.2.2.1.narrow hAb
  have hP : va_P (dC, dI) vwCl (wFm aF aN aT aL aO aH aP aX ++ (wSt cI aN S ++ (wSt cI aT R ++ (wLo cI aL Y ++ (wHi cS aH ah G ++ (wZs cI ah Z ++ (wSn cI cZ aP N))))))) s.heap := hP
  generalize hR : f6_restore S R Y G Z N p1 = res
  rw [f6_restore] at hR
  have hin6 : ∀ w ∈ wsX60, w ∈ wsX6_restore := by decide +kernel
  have hin5 : ∀ w ∈ wsX50, w ∈ wsX6_restore := by decide +kernel
  have hl := lv_entry ([.ref (aF 0), .int p1]) (n := 2) (Nat.le_of_ble_eq_true rfl)
  rw [lg_entry_eq]
  generalize (lg_sl ([.ref (aF 0), .int p1]) ++ List.replicate (2 - (lg_sl ([.ref (aF 0), .int p1])).length) Slot.unset).toArray = ls at hl ⊢
  have hl : lv_has ls 2 [(0, .ref (aF 0)), (1, .int p1)] := hl
  refine lv_iload_n hx hb dX6_restore_0 rfl (lv_at hl 1 rfl) ?_
  refine lv_iconst (v := (0 : Int32)) hx hb dX6_restore_1 (by decide) ?_
  refine lv_iconst (v := (1 : Int32)) hx hb dX6_restore_2 (by decide) ?_
  refine va_calli (va_runS (As := [.int p1, .int (0 : Int32), .int (1 : Int32)]) (rest := []) ⟨hx, hb, hml, hown, hts⟩ (met_X6_isWithin l dC dI cI cZ cS s.heap.size p1 (0 : Int32) (1 : Int32)) (va_cwS 3 hts gX6_restore_X6_isWithin rfl rfl rfl (by decide +kernel) ⟨Nat.le_of_ble_eq_true rfl, Nat.le_of_ble_eq_true rfl⟩) (pS (wc := []) hK hP hD hN [] rfl (by decide)) rfl rfl hl.1 rfl (lv_room (Nat.le_of_ble_eq_true rfl)) dX6_restore_3 ⟨Nat.zero_le _, Nat.zero_le _⟩) hS (fun q _ h => a0_in hS hA q h) (a0_in hS hA) (fun r1 u t H1 locs ht hvm hw hB hz1 hk1 hS => ?_)
  obtain ⟨hw, nb2⟩ := hw
  subst hw
  have hP := rdk hP hk1
  refine lv_if_ne (tgt := 20) hx hb dX6_restore_6 (by decide) (fun c_3 => ?_) (fun c_3 => ?_)
  · rw [if_neg c_3] at hR
    refine lv_aload_n hx hb dX6_restore_20 rfl (lv_at hl 0 rfl) ?_
    refine va_get (D := (dC, dI)) (ci := 6) (v := .ref (aP 0)) (C := RX6) (T := TX6) (N := 7) hx hb hts hin6 hown hK hP 0 rfl rfl 5 (by decide) (hw_ hts 5 rfl) (fun _ h9 => h9) rfl dX6_restore_21 ?_
    refine lv_iload_n hx hb dX6_restore_24 rfl (lv_at hl 1 rfl) ?_
    refine va_calli (va_runV (As := [.int p1]) (rest := []) ⟨hx, hb, hml, hown, hts⟩ (met_X4_isTaken l dC dI cI cZ cS aP N H1.size p1) (cwV 1 hts gX6_restore_X4_isTaken rfl rfl rfl (by decide +kernel) ⟨Nat.le_of_ble_eq_true rfl, Nat.le_of_ble_eq_true rfl⟩) (pV (wc := wSn cI cZ aP N) (ci := 4) (q0 := 94) hK hP hD hN [94, 95, 96] rfl (by decide) rfl rfl) rfl rfl hl.1 rfl (lv_room (Nat.le_of_ble_eq_true rfl)) dX6_restore_25 ⟨Nat.zero_le _, Nat.zero_le _⟩) hS (fun q _ h => a0_in hS hA q h) (a0_in hS hA) (fun r4 u t H2 locs ht hvm hw hB hz1 hk1 hS => ?_)
    obtain ⟨hw, nb5⟩ := hw
    have hR := bd_n hw hR
    have hP := rdk hP hk1
    refine lv_if_ne (tgt := 42) hx hb dX6_restore_28 (by decide) (fun c_6 => ?_) (fun c_6 => ?_)
    · rw [if_neg c_6] at hR
      refine lv_aload_n hx hb dX6_restore_42 rfl (lv_at hl 0 rfl) ?_
      refine va_get (D := (dC, dI)) (ci := 6) (v := .ref (aT 0)) (C := RX6) (T := TX6) (N := 7) hx hb hts hin6 hown hK hP 0 rfl rfl 1 (by decide) (hw_ hts 6 rfl) (fun _ h9 => h9) rfl dX6_restore_43 ?_
      refine lv_aload_n hx hb dX6_restore_46 rfl (lv_at hl 0 rfl) ?_
      refine va_get (D := (dC, dI)) (ci := 6) (v := .ref (aN 0)) (C := RX6) (T := TX6) (N := 7) hx hb hts hin6 hown hK hP 0 rfl rfl 0 (by decide) (hw_ hts 7 rfl) (fun _ h9 => h9) rfl dX6_restore_47 ?_
      have hF := va_free (wc := wSt cI aT R ++ (wSt cI aN S)) hD hS hA [12, 13, 14, 15, 16, 17, 18, 19, 20, 21, 22, 1, 2, 3, 4, 5, 6, 7, 8, 9, 10, 11] rfl
      refine va_callv (va_runV (As := [.ref (aN 0)]) (rest := []) ⟨hx, hb, hml, hown, hts⟩ (met_X5_copyFrom l dC dI cI cZ cS aT aN R S H2.size) (cwV 1 hts gX6_restore_X5_copyFrom rfl rfl rfl (by decide +kernel) ⟨Nat.le_of_ble_eq_true rfl, Nat.le_of_ble_eq_true rfl⟩) (pV (wc := wSt cI aT R ++ (wSt cI aN S)) (ci := 5) (q0 := 12) hK hP hD hN [12, 13, 14, 15, 16, 17, 18, 19, 20, 21, 22, 1, 2, 3, 4, 5, 6, 7, 8, 9, 10, 11] rfl (by decide) rfl rfl) rfl rfl hl.1 rfl (lv_room (Nat.le_of_ble_eq_true rfl)) dX6_restore_50 ⟨Nat.zero_le _, Nat.zero_le _⟩) hS (fun q _ h => hF q h) hF (fun  u7 t H3 locs ht hvm hw hB hz1 hk1 hS => ?_)
      try dsimp only at hw hB
      rw [ht] at hB
      have hR := bd_n hw hR
      have hP := wrk2 (w2 := wFm aF aN aT aL aO aH aP aX ++ (wSt cI aN S ++ (wSt cI aT u7 ++ (wLo cI aL Y ++ (wHi cS aH ah G ++ (wZs cI ah Z ++ (wSn cI cZ aP N))))))) (wr := wFm aF aN aT aL aO aH aP aX ++ (wLo cI aL Y ++ (wHi cS aH ah G ++ (wZs cI ah Z ++ (wSn cI cZ aP N))))) hP hD [12, 13, 14, 15, 16, 17, 18, 19, 20, 21, 22, 1, 2, 3, 4, 5, 6, 7, 8, 9, 10, 11] [0, 23, 24, 25, 26, 27, 28, 29, 30, 31, 32, 33, 34, 35, 36, 37, 38, 39, 40, 41, 42, 43, 44, 45, 46, 47, 48, 49, 50, 51, 52, 53, 54, 55, 56, 57, 58, 59, 60, 61, 62, 63, 64, 65, 66, 67, 68, 69, 70, 71, 72, 73, 74, 75, 76, 77, 78, 79, 80, 81, 82, 83, 84, 85, 86, 87, 88, 89, 90, 91, 92, 93, 94, 95, 96] rfl rfl (by decide) hk1 hB [0, 86, 87, 88, 89, 90, 91, 92, 93, 94, 95, 96, 75, 76, 77, 78, 79, 80, 81, 82, 83, 84, 85, 1, 2, 3, 4, 5, 6, 7, 8, 9, 10, 11, 12, 13, 14, 15, 16, 17, 18, 19, 20, 21, 22, 23, 24, 25, 26, 27, 28, 29, 30, 31, 32, 33, 34, 35, 36, 37, 38, 39, 40, 41, 42, 43, 44, 45, 46, 47, 48, 49, 50, 51, 52, 53, 54, 55, 56, 57, 58, 59, 60, 61, 62, 63, 64, 65, 66, 67, 68, 69, 70, 71, 72, 73, 74] rfl
      have hD := D_addr (w1 := wFm aF aN aT aL aO aH aP aX ++ (wSt cI aN S ++ (wSt cI aT u7 ++ (wLo cI aL Y ++ (wHi cS aH ah G ++ (wZs cI ah Z ++ (wSn cI cZ aP N))))))) hD rfl
      refine lv_aload_n hx hb dX6_restore_53 rfl (lv_at hl 0 rfl) ?_
      refine va_get (D := (dC, dI)) (ci := 6) (v := .ref (aP 0)) (C := RX6) (T := TX6) (N := 7) hx hb hts hin6 hown hK hP 0 rfl rfl 5 (by decide) (hw_ hts 5 rfl) (fun _ h9 => h9) rfl dX6_restore_54 ?_
      refine lv_iload_n hx hb dX6_restore_57 rfl (lv_at hl 1 rfl) ?_
      refine lv_aload_n hx hb dX6_restore_58 rfl (lv_at hl 0 rfl) ?_
      refine va_get (D := (dC, dI)) (ci := 6) (v := .ref (aT 0)) (C := RX6) (T := TX6) (N := 7) hx hb hts hin6 hown hK hP 0 rfl rfl 1 (by decide) (hw_ hts 6 rfl) (fun _ h9 => h9) rfl dX6_restore_59 ?_
      refine va_get (D := (dC, dI)) (ci := 5) (v := .ref (aT 11)) (C := RX5) (T := TX5) (N := 12) hx hb hts hin5 hown hK hP 12 rfl rfl 11 (by decide) (hw_ hts 8 rfl) (fun _ h9 => h9) rfl dX6_restore_62 ?_
      have hF := va_free (wc := wSn cI cZ aP N ++ ([((aT 11), .inl (cI, 84, .inl (u7 11)))])) hD hS hA [94, 95, 96, 22] rfl
      refine va_callv (va_runV (As := [.int p1, .ref (aT 11)]) (rest := []) ⟨hx, hb, hml, hown, hts⟩ (met_X4_copyTo l dC dI cI cZ cS aP (aT 11) 84 (by decide) N (u7 11) H3.size p1) (cwV 2 hts gX6_restore_X4_copyTo rfl rfl rfl (by decide +kernel) ⟨Nat.le_of_ble_eq_true rfl, Nat.le_of_ble_eq_true rfl⟩) (pV (wc := wSn cI cZ aP N ++ ([((aT 11), .inl (cI, 84, .inl (u7 11)))])) (ci := 4) (q0 := 94) hK hP hD hN [94, 95, 96, 22] rfl (by decide) rfl rfl) rfl rfl hl.1 rfl (lv_room (Nat.le_of_ble_eq_true rfl)) dX6_restore_65 ⟨Nat.zero_le _, Nat.zero_le _⟩) hS (fun q _ h => hF q h) hF (fun  u8 t H4 locs ht hvm hw hB hz1 hk1 hS => ?_)
      try dsimp only at hw hB
      rw [ht] at hB
      have hR := bd_n hw hR
      have hP := wrk (w2 := wFm aF aN aT aL aO aH aP aX ++ (wSt cI aN S ++ (wSt cI aT (pset u7 11 u8) ++ (wLo cI aL Y ++ (wHi cS aH ah G ++ (wZs cI ah Z ++ (wSn cI cZ aP N))))))) hP hD [94, 95, 96, 22] rfl (by decide) hk1 hB rfl rfl
      have hD := D_addr (w1 := wFm aF aN aT aL aO aH aP aX ++ (wSt cI aN S ++ (wSt cI aT (pset u7 11 u8) ++ (wLo cI aL Y ++ (wHi cS aH ah G ++ (wZs cI ah Z ++ (wSn cI cZ aP N))))))) hD rfl
      refine lv_aload_n hx hb dX6_restore_68 rfl (lv_at hl 0 rfl) ?_
      refine va_get (D := (dC, dI)) (ci := 6) (v := .ref (aT 0)) (C := RX6) (T := TX6) (N := 7) hx hb hts hin6 hown hK hP 0 rfl rfl 1 (by decide) (hw_ hts 6 rfl) (fun _ h9 => h9) rfl dX6_restore_69 ?_
      refine va_calli (va_runV (As := []) (rest := []) ⟨hx, hb, hml, hown, hts⟩ (met_X5_hasStrangeDish l dC dI cI cZ cS aT (pset u7 11 u8) H4.size) (cwV 0 hts gX6_restore_X5_hasStrangeDish rfl rfl rfl (by decide +kernel) ⟨Nat.le_of_ble_eq_true rfl, Nat.le_of_ble_eq_true rfl⟩) (pV (wc := wSt cI aT (pset u7 11 u8)) (ci := 5) (q0 := 12) hK hP hD hN [12, 13, 14, 15, 16, 17, 18, 19, 20, 21, 22] rfl (by decide) rfl rfl) rfl rfl hl.1 rfl (lv_room (Nat.le_of_ble_eq_true rfl)) dX6_restore_72 ⟨Nat.zero_le _, Nat.zero_le _⟩) hS (fun q _ h => a0_in hS hA q h) (a0_in hS hA) (fun r9 u t H5 locs ht hvm hw hB hz1 hk1 hS => ?_)
      obtain ⟨hw, nb10⟩ := hw
      have hR := bd_n hw hR
      have hP := rdk hP hk1
      refine lv_if_ne (tgt := 89) hx hb dX6_restore_75 (by decide) (fun c_11 => ?_) (fun c_11 => ?_)
      · rw [if_neg c_11] at hR
        obtain ⟨sa, hsa⟩ := hXW.1 211 (by decide)
        exact vx_throwS (text := strT 211) (sa := sa) (A := A) (names := ["java/lang/RuntimeException", "java/lang/Exception"]) (cls := "java/lang/IllegalStateException") hx hb hfl hown (by decide) (by decide) (hw_ hts 3 rfl) (hw_ hts 4 rfl) hsa (thr_at3 hXW (fun w h => hts w (List.mem_cons_of_mem _ (List.mem_append_right _ h)))) (by decide +kernel) hU hNs hS (hl.1.trans hml.symm) dX6_restore_89 dX6_restore_92 dX6_restore_93 dX6_restore_95 dX6_restore_98 (fun x hx => (htab x hx).elim) (Nat.lt_of_sub_pos (Nat.le_of_ble_eq_true rfl)) (Nat.le_of_ble_eq_true rfl) (Nat.le_of_ble_eq_true rfl) (Nat.le_of_ble_eq_true rfl) hlocks (fun t h1 h2 h3 => ⟨(S, (pset u7 11 u8), Y, G, Z), trivial, ⟨(3 : Int32), rfl, by decide, hR, thr_P hP h3⟩, thr_F hS h2 h3⟩) hS.2.2 (Nat.le_of_ble_eq_true rfl) (Nat.le_of_ble_eq_true rfl)
      · rw [if_pos c_11] at hR
        refine lv_aload_n hx hb dX6_restore_78 rfl (lv_at hl 0 rfl) ?_
        refine lv_aload_n hx hb dX6_restore_79 rfl (lv_at hl 0 rfl) ?_
        refine va_get (D := (dC, dI)) (ci := 6) (v := .ref (aT 0)) (C := RX6) (T := TX6) (N := 7) hx hb hts hin6 hown hK hP 0 rfl rfl 1 (by decide) (hw_ hts 6 rfl) (fun _ h9 => h9) rfl dX6_restore_80 ?_
        have hF := va_free (wc := wFm aF aN aT aL aO aH aP aX ++ (wSt cI aT (pset u7 11 u8) ++ (wLo cI aL Y))) hD hS hA [0, 12, 13, 14, 15, 16, 17, 18, 19, 20, 21, 22, 23, 24, 25] rfl
        refine va_calli (va_runV (As := [.ref (aT 0)]) (rest := []) ⟨hx, hb, hml, hown, hts⟩ (met_X6_canStand l dC dI cI cZ cS aF aN aT aL aO aH ah aP aX (pset u7 11 u8) Y H5.size) (cwV 1 hts gX6_restore_X6_canStand rfl rfl rfl (by decide +kernel) ⟨Nat.le_of_ble_eq_true rfl, Nat.le_of_ble_eq_true rfl⟩) (pV (wc := wFm aF aN aT aL aO aH aP aX ++ (wSt cI aT (pset u7 11 u8) ++ (wLo cI aL Y))) (ci := 6) (q0 := 0) hK hP hD hN [0, 12, 13, 14, 15, 16, 17, 18, 19, 20, 21, 22, 23, 24, 25] rfl (by decide) rfl rfl) rfl rfl hl.1 rfl (lv_room (Nat.le_of_ble_eq_true rfl)) dX6_restore_83 ⟨Nat.zero_le _, Nat.zero_le _⟩) hS (fun q _ h => hF q h) hF (fun r12 u13 t H6 locs ht hvm hw hB hz1 hk1 hS => ?_)
        obtain ⟨hw, nb14⟩ := hw
        try dsimp only at hw hB
        rw [ht] at hB
        have hR := bd2_n hw hR
        have hP := wrk2 (w2 := wFm aF aN aT aL aO aH aP aX ++ (wSt cI aN S ++ (wSt cI aT (pset u7 11 u8) ++ (wLo cI aL u13 ++ (wHi cS aH ah G ++ (wZs cI ah Z ++ (wSn cI cZ aP N))))))) (wr := wSt cI aN S ++ (wHi cS aH ah G ++ (wZs cI ah Z ++ (wSn cI cZ aP N)))) hP hD [0, 12, 13, 14, 15, 16, 17, 18, 19, 20, 21, 22, 23, 24, 25] [1, 2, 3, 4, 5, 6, 7, 8, 9, 10, 11, 26, 27, 28, 29, 30, 31, 32, 33, 34, 35, 36, 37, 38, 39, 40, 41, 42, 43, 44, 45, 46, 47, 48, 49, 50, 51, 52, 53, 54, 55, 56, 57, 58, 59, 60, 61, 62, 63, 64, 65, 66, 67, 68, 69, 70, 71, 72, 73, 74, 75, 76, 77, 78, 79, 80, 81, 82, 83, 84, 85, 86, 87, 88, 89, 90, 91, 92, 93, 94, 95, 96] rfl rfl (by decide) hk1 hB [82, 0, 1, 2, 3, 4, 5, 6, 7, 8, 9, 10, 83, 84, 85, 86, 87, 88, 89, 90, 91, 92, 93, 94, 95, 96, 11, 12, 13, 14, 15, 16, 17, 18, 19, 20, 21, 22, 23, 24, 25, 26, 27, 28, 29, 30, 31, 32, 33, 34, 35, 36, 37, 38, 39, 40, 41, 42, 43, 44, 45, 46, 47, 48, 49, 50, 51, 52, 53, 54, 55, 56, 57, 58, 59, 60, 61, 62, 63, 64, 65, 66, 67, 68, 69, 70, 71, 72, 73, 74, 75, 76, 77, 78, 79, 80, 81] rfl
        have hD := D_addr (w1 := wFm aF aN aT aL aO aH aP aX ++ (wSt cI aN S ++ (wSt cI aT (pset u7 11 u8) ++ (wLo cI aL u13 ++ (wHi cS aH ah G ++ (wZs cI ah Z ++ (wSn cI cZ aP N))))))) hD rfl
        refine lv_if_ne (tgt := 99) hx hb dX6_restore_86 (by decide) (fun c_15 => ?_) (fun c_15 => ?_)
        · rw [if_neg c_15] at hR
          refine lv_aload_n hx hb dX6_restore_99 rfl (lv_at hl 0 rfl) ?_
          have hF := va_free (wc := wFm aF aN aT aL aO aH aP aX ++ (wSt cI aN S ++ (wSt cI aT (pset u7 11 u8) ++ (wHi cS aH ah G ++ (wZs cI ah Z))))) hD hS hA [0, 1, 2, 3, 4, 5, 6, 7, 8, 9, 10, 11, 12, 13, 14, 15, 16, 17, 18, 19, 20, 21, 22, 26, 27, 28, 29, 30, 31, 32, 33, 34, 35, 36, 37, 38, 39, 40, 41, 42, 43, 44, 45, 46, 47, 48, 49, 50, 51, 52, 53, 54, 55, 56, 57, 58, 59, 60, 61, 62, 63, 64, 65, 66, 67, 68, 69, 70, 71, 72, 73, 74, 75, 76, 77, 78, 79, 80, 81, 82, 83, 84, 85, 86, 87, 88, 89, 90, 91, 92, 93] rfl
          refine va_callv (va_runV (As := []) (rest := []) ⟨hx, hb, hml, hown, hts⟩ (met_X6_takeOverTrial l dC dI cI cZ cS aF aN aT aL aO aH ah aP aX S (pset u7 11 u8) G Z H6.size) (cwV 0 hts gX6_restore_X6_takeOverTrial rfl rfl rfl (by decide +kernel) ⟨Nat.le_of_ble_eq_true rfl, Nat.le_of_ble_eq_true rfl⟩) (pV (wc := wFm aF aN aT aL aO aH aP aX ++ (wSt cI aN S ++ (wSt cI aT (pset u7 11 u8) ++ (wHi cS aH ah G ++ (wZs cI ah Z))))) (ci := 6) (q0 := 0) hK hP hD hN [0, 1, 2, 3, 4, 5, 6, 7, 8, 9, 10, 11, 12, 13, 14, 15, 16, 17, 18, 19, 20, 21, 22, 26, 27, 28, 29, 30, 31, 32, 33, 34, 35, 36, 37, 38, 39, 40, 41, 42, 43, 44, 45, 46, 47, 48, 49, 50, 51, 52, 53, 54, 55, 56, 57, 58, 59, 60, 61, 62, 63, 64, 65, 66, 67, 68, 69, 70, 71, 72, 73, 74, 75, 76, 77, 78, 79, 80, 81, 82, 83, 84, 85, 86, 87, 88, 89, 90, 91, 92, 93] rfl (by decide) rfl rfl) rfl rfl hl.1 rfl (lv_room (Nat.le_of_ble_eq_true rfl)) dX6_restore_100 ⟨Nat.zero_le _, Nat.zero_le _⟩) hS (fun q _ h => hF q h) hF (fun  u t H7 locs ht hvm hw hB hz1 hk1 hS => ?_)
          obtain ⟨u16, u17, u18⟩ := u
          try dsimp only at hw hB
          rw [ht] at hB
          have hR := bd3_n hw hR
          have hP := wrk2 (w2 := wFm aF aN aT aL aO aH aP aX ++ (wSt cI aN u16 ++ (wSt cI aT (pset u7 11 u8) ++ (wLo cI aL u13 ++ (wHi cS aH ah u17 ++ (wZs cI ah u18 ++ (wSn cI cZ aP N))))))) (wr := wLo cI aL u13 ++ (wSn cI cZ aP N)) hP hD [0, 1, 2, 3, 4, 5, 6, 7, 8, 9, 10, 11, 12, 13, 14, 15, 16, 17, 18, 19, 20, 21, 22, 26, 27, 28, 29, 30, 31, 32, 33, 34, 35, 36, 37, 38, 39, 40, 41, 42, 43, 44, 45, 46, 47, 48, 49, 50, 51, 52, 53, 54, 55, 56, 57, 58, 59, 60, 61, 62, 63, 64, 65, 66, 67, 68, 69, 70, 71, 72, 73, 74, 75, 76, 77, 78, 79, 80, 81, 82, 83, 84, 85, 86, 87, 88, 89, 90, 91, 92, 93] [23, 24, 25, 94, 95, 96] rfl rfl (by decide) hk1 hB [6, 7, 8, 9, 10, 11, 12, 13, 14, 15, 16, 17, 18, 19, 20, 21, 22, 23, 24, 25, 26, 27, 28, 0, 1, 2, 29, 30, 31, 32, 33, 34, 35, 36, 37, 38, 39, 40, 41, 42, 43, 44, 45, 46, 47, 48, 49, 50, 51, 52, 53, 54, 55, 56, 57, 58, 59, 60, 61, 62, 63, 64, 65, 66, 67, 68, 69, 70, 71, 72, 73, 74, 75, 76, 77, 78, 79, 80, 81, 82, 83, 84, 85, 86, 87, 88, 89, 90, 91, 92, 93, 94, 95, 96, 3, 4, 5] rfl
          have hD := D_addr (w1 := wFm aF aN aT aL aO aH aP aX ++ (wSt cI aN u16 ++ (wSt cI aT (pset u7 11 u8) ++ (wLo cI aL u13 ++ (wHi cS aH ah u17 ++ (wZs cI ah u18 ++ (wSn cI cZ aP N))))))) hD rfl
          refine lv_aload_n hx hb dX6_restore_103 rfl (lv_at hl 0 rfl) ?_
          refine va_get (D := (dC, dI)) (ci := 6) (v := .ref (aN 0)) (C := RX6) (T := TX6) (N := 7) hx hb hts hin6 hown hK hP 0 rfl rfl 0 (by decide) (hw_ hts 7 rfl) (fun _ h9 => h9) rfl dX6_restore_104 ?_
          refine va_calli (va_runV (As := []) (rest := []) ⟨hx, hb, hml, hown, hts⟩ (met_X5_planCount l dC dI cI cZ cS aN u16 H7.size) (cwV 0 hts gX6_restore_X5_planCount rfl rfl rfl (by decide +kernel) ⟨Nat.le_of_ble_eq_true rfl, Nat.le_of_ble_eq_true rfl⟩) (pV (wc := wSt cI aN u16) (ci := 5) (q0 := 1) hK hP hD hN [1, 2, 3, 4, 5, 6, 7, 8, 9, 10, 11] rfl (by decide) rfl rfl) rfl rfl hl.1 rfl (lv_room (Nat.le_of_ble_eq_true rfl)) dX6_restore_107 ⟨Nat.zero_le _, Nat.zero_le _⟩) hS (fun q _ h => a0_in hS hA q h) (a0_in hS hA) (fun r19 u t H8 locs ht hvm hw hB hz1 hk1 hS => ?_)
          have hR := bd_n hw hR
          have hP := rdk hP hk1
          exact vx_ret (W.widen (k := 1) (n := 6) (Nat.zero_le _) (Nat.zero_le _) (W.iret (v := r19) hx hb hr (fun t ht hW => ⟨⟨r19, (u16, (pset u7 11 u8), u13, u17, u18), rfl, hR, P_at ht hP⟩, hS.F ht⟩) hS.2.2 dX6_restore_110))
        · rw [if_pos c_15] at hR
          obtain ⟨sa, hsa⟩ := hXW.1 211 (by decide)
          exact vx_throwS (text := strT 211) (sa := sa) (A := A) (names := ["java/lang/RuntimeException", "java/lang/Exception"]) (cls := "java/lang/IllegalStateException") hx hb hfl hown (by decide) (by decide) (hw_ hts 3 rfl) (hw_ hts 4 rfl) hsa (thr_at3 hXW (fun w h => hts w (List.mem_cons_of_mem _ (List.mem_append_right _ h)))) (by decide +kernel) hU hNs hS (hl.1.trans hml.symm) dX6_restore_89 dX6_restore_92 dX6_restore_93 dX6_restore_95 dX6_restore_98 (fun x hx => (htab x hx).elim) (Nat.lt_of_sub_pos (Nat.le_of_ble_eq_true rfl)) (Nat.le_of_ble_eq_true rfl) (Nat.le_of_ble_eq_true rfl) (Nat.le_of_ble_eq_true rfl) hlocks (fun t h1 h2 h3 => ⟨(S, (pset u7 11 u8), u13, G, Z), trivial, ⟨(3 : Int32), rfl, by decide, hR, thr_P hP h3⟩, thr_F hS h2 h3⟩) hS.2.2 (Nat.le_of_ble_eq_true rfl) (Nat.le_of_ble_eq_true rfl)
    · rw [if_pos c_6] at hR
      obtain ⟨sa, hsa⟩ := hXW.1 275 (by decide)
      exact vx_throwSW (text := strT 275) (sa := sa) (A := A) (names := ["java/lang/RuntimeException", "java/lang/Exception"]) (cls := "java/lang/IllegalStateException") hx hb hfl hown (by decide) (by decide) (hw_ hts 3 rfl) (hw_ hts 4 rfl) hsa (thr_at3 hXW (fun w h => hts w (List.mem_cons_of_mem _ (List.mem_append_right _ h)))) (by decide +kernel) hU hNs hS (hl.1.trans hml.symm) dX6_restore_31 dX6_restore_34 dX6_restore_35 dX6_restore_38 dX6_restore_41 (fun x hx => (htab x hx).elim) (Nat.lt_of_sub_pos (Nat.le_of_ble_eq_true rfl)) (Nat.le_of_ble_eq_true rfl) (Nat.le_of_ble_eq_true rfl) (Nat.le_of_ble_eq_true rfl) hlocks (fun t h1 h2 h3 => ⟨(S, R, Y, G, Z), trivial, ⟨(3 : Int32), rfl, by decide, hR, thr_P hP h3⟩, thr_F hS h2 h3⟩) hS.2.2 (Nat.le_of_ble_eq_true rfl) (Nat.le_of_ble_eq_true rfl)
  · rw [if_pos c_3] at hR
    obtain ⟨sa, hsa⟩ := hXW.1 266 (by decide)
    exact vx_throwSW (text := strT 266) (sa := sa) (A := A) (names := ["java/lang/RuntimeException", "java/lang/Exception"]) (cls := "java/lang/IndexOutOfBoundsException") hx hb hfl hown (by decide) (by decide) (hw_ hts 1 rfl) (hw_ hts 2 rfl) hsa (thr_at1 hXW (fun w h => hts w (List.mem_cons_of_mem _ (List.mem_append_left _ (List.mem_append_right _ h))))) (by decide +kernel) hU hNs hS (hl.1.trans hml.symm) dX6_restore_9 dX6_restore_12 dX6_restore_13 dX6_restore_16 dX6_restore_19 (fun x hx => (htab x hx).elim) (Nat.lt_of_sub_pos (Nat.le_of_ble_eq_true rfl)) (Nat.le_of_ble_eq_true rfl) (Nat.le_of_ble_eq_true rfl) (Nat.le_of_ble_eq_true rfl) hlocks (fun t h1 h2 h3 => ⟨(S, R, Y, G, Z), trivial, ⟨(1 : Int32), rfl, by decide, hR, thr_P hP h3⟩, thr_F hS h2 h3⟩) hS.2.2 (Nat.le_of_ble_eq_true rfl) (Nat.le_of_ble_eq_true rfl)
abbrev rm_X6_fill : Room := { frames := 6, cells := 1, slots := 6, locals := 150 }
abbrev x_X6_fill (dC : Nat → ClassId) (dI : Nat → Nat → Nat) (cI cZ cS : ClassId) (aF aN aT aL aO aH : Nat → Nat) (ah : Nat → Nat → Nat) (aP aX : Nat → Nat)  (res : Int32 × Int32 × Pic × Pic × Pic × (Nat → Pic)) (A : Nat → Prop) : String → State → State → Prop := vx_X (fun (_ : Pic × Pic × Pic × (Nat → Pic)) => True) (fun E u t => ∃ c : Int32, exN c = E ∧ ¬ c = 0 ∧ (c, (0 : Int32), u) = res ∧ va_P (dC, dI) vwCl (wFm aF aN aT aL aO aH aP aX ++ (wSt cI aN u.1 ++ (wLo cI aL u.2.1 ++ (wOu aO aN aL ++ (wHi cS aH ah u.2.2.1 ++ (wZs cI ah u.2.2.2)))))) t.heap) A
abbrev q_X6_fill (dC : Nat → ClassId) (dI : Nat → Nat → Nat) (cI cZ cS : ClassId) (aF aN aT aL aO aH : Nat → Nat) (ah : Nat → Nat → Nat) (aP aX : Nat → Nat)  (res : Int32 × Int32 × Pic × Pic × Pic × (Nat → Pic)) (A : Nat → Prop) : Array Value → State → Outcome → State → Prop := va_Qi (fun (r : Int32) (u : Pic × Pic × Pic × (Nat → Pic)) => ((0 : Int32), r, u) = res) (fun u t => va_P (dC, dI) vwCl (wFm aF aN aT aL aO aH aP aX ++ (wSt cI aN u.1 ++ (wLo cI aL u.2.1 ++ (wOu aO aN aL ++ (wHi cS aH ah u.2.2.1 ++ (wZs cI ah u.2.2.2)))))) t.heap) A
set_option maxHeartbeats 4000000 in
set_option maxRecDepth 100000 in
theorem met_X6_fill (l : Launch) (hfl : l.stackTraces = false) (dC : Nat → ClassId) (dI : Nat → Nat → Nat) (cI cZ cS : ClassId) (aF aN aT aL aO aH : Nat → Nat) (ah : Nat → Nat → Nat) (aP aX : Nat → Nat) (S : Pic) (Y : Pic) (G : Pic) (Z : (Nat → Pic)) (base sz : Nat) (p1 : Int32) (res : Int32 × Int32 × Pic × Pic × Pic × (Nat → Pic)) (hR : f6_fill S Y G Z p1 = some res) : vx_Met l yX6_fill wsX6_fill rm_X6_fill (va_Pc [.ref (aF 0), .int p1] (pX (dC, dI) (tyS cI cZ cS) (wFm aF aN aT aL aO aH aP aX ++ (wSt cI aN S ++ (wLo cI aL Y ++ (wOu aO aN aL ++ (wHi cS aH ah G ++ (wZs cI ah Z)))))) base sz)) (q_X6_fill dC dI cI cZ cS aF aN aT aL aO aH ah aP aX res (va_A (wFm aF aN aT aL aO aH aP aX ++ (wSt cI aN S ++ (wLo cI aL Y ++ (wOu aO aN aL ++ (wHi cS aH ah G ++ (wZs cI ah Z)))))) sz)) (x_X6_fill dC dI cI cZ cS aF aN aT aL aO aH ah aP aX res (va_A (wFm aF aN aT aL aO aH aP aX ++ (wSt cI aN S ++ (wLo cI aL Y ++ (wOu aO aN aL ++ (wHi cS aH ah G ++ (wZs cI ah Z)))))) sz)) 1 6 (va_A (wFm aF aN aT aL aO aH aP aX ++ (wSt cI aN S ++ (wLo cI aL Y ++ (wOu aO aN aL ++ (wHi cS aH ah G ++ (wZs cI ah Z)))))) sz) := by
  refine vx_ofW (cc := cX6_fill) (maxL := 5) (ret := (some .int)) (by decide) rfl ?_
  intro p e s m args below meth c s₁ B hml htab hv
  obtain ⟨rfl, hsz, hP, hK, hD0, hN, hbs, hXW⟩ := hv
  have hx := B.exec
  have hb := B.bytes
  have hr := B.returns
  have hts := atoms_spec (ws := wsX6_fill) B.pre
  have hown : s.vm.findClass RX6 = some m.cls := findClass_of_methodNamed B.named
  have hlocks := B.notSynchronized
  subst hsz
  have hD := hD0.self (sz := s.heap.size)
  generalize hAe : va_A (wFm aF aN aT aL aO aH aP aX ++ (wSt cI aN S ++ (wLo cI aL Y ++ (wOu aO aN aL ++ (wHi cS aH ah G ++ (wZs cI ah Z)))))) s.heap.size = A at hD ⊢
  have hA : ∀ q : Nat, s.heap.size ≤ q → A q := fun q h => by rw [← hAe]; exact Or.inr h
  have hS : va_S A s.heap s.heap [] := va_S.rf
  have hAb : ∀ q, A q → base ≤ q := fun q h => by rw [← hAe] at h; exact base_of hD0 hbs q h
  have hU := hXW.2.1.narrow hAb
  have hNs := hXW.2.2.1.narrow hAb
  have hP : va_P (dC, dI) vwCl (wFm aF aN aT aL aO aH aP aX ++ (wSt cI aN S ++ (wLo cI aL Y ++ (wOu aO aN aL ++ (wHi cS aH ah G ++ (wZs cI ah Z)))))) s.heap := hP
  rw [f6_fill] at hR
  have hin6 : ∀ w ∈ wsX60, w ∈ wsX6_fill := by decide +kernel
  have hin5 : ∀ w ∈ wsX50, w ∈ wsX6_fill := by decide +kernel
  have hl := lv_entry ([.ref (aF 0), .int p1]) (n := 5) (Nat.le_of_ble_eq_true rfl)
  rw [lg_entry_eq]
  generalize (lg_sl ([.ref (aF 0), .int p1]) ++ List.replicate (5 - (lg_sl ([.ref (aF 0), .int p1])).length) Slot.unset).toArray = ls at hl ⊢
  have hl : lv_has ls 5 [(0, .ref (aF 0)), (1, .int p1)] := hl
  refine lv_iload_n hx hb dX6_fill_0 rfl (lv_at hl 1 rfl) ?_
  refine va_calli (va_runS (As := [.int p1]) (rest := []) ⟨hx, hb, hml, hown, hts⟩ (met_X6_isDay l dC dI cI cZ cS s.heap.size p1) (va_cwS 1 hts gX6_fill_X6_isDay rfl rfl rfl (by decide +kernel) ⟨Nat.le_of_ble_eq_true rfl, Nat.le_of_ble_eq_true rfl⟩) (pS (wc := []) hK hP hD hN [] rfl (by decide)) rfl rfl hl.1 rfl (lv_room (Nat.le_of_ble_eq_true rfl)) dX6_fill_1 ⟨Nat.zero_le _, Nat.zero_le _⟩) hS (fun q _ h => a0_in hS hA q h) (a0_in hS hA) (fun r1 u t H1 locs ht hvm hw hB hz1 hk1 hS => ?_)
  obtain ⟨hw, nb2⟩ := hw
  subst hw
  have hP := rdk hP hk1
  refine lv_if_ne (tgt := 17) hx hb dX6_fill_4 (by decide) (fun c_3 => ?_) (fun c_3 => ?_)
  · rw [if_neg c_3] at hR
    refine lv_aload_n hx hb dX6_fill_17 rfl (lv_at hl 0 rfl) ?_
    refine va_get (D := (dC, dI)) (ci := 6) (v := .ref (aH 0)) (C := RX6) (T := TX6) (N := 7) hx hb hts hin6 hown hK hP 0 rfl rfl 4 (by decide) (hw_ hts 3 rfl) (fun _ h9 => h9) rfl dX6_fill_18 ?_
    refine lv_aload_n hx hb dX6_fill_21 rfl (lv_at hl 0 rfl) ?_
    refine va_get (D := (dC, dI)) (ci := 6) (v := .ref (aN 0)) (C := RX6) (T := TX6) (N := 7) hx hb hts hin6 hown hK hP 0 rfl rfl 0 (by decide) (hw_ hts 4 rfl) (fun _ h9 => h9) rfl dX6_fill_22 ?_
    have hF := va_free (wc := wHi cS aH ah G ++ (wZs cI ah Z ++ (wSt cI aN S))) hD hS hA [16, 17, 18, 19, 20, 21, 22, 23, 24, 25, 26, 27, 28, 29, 30, 31, 32, 33, 34, 35, 36, 37, 38, 39, 40, 41, 42, 43, 44, 45, 46, 47, 48, 49, 50, 51, 52, 53, 54, 55, 56, 57, 58, 59, 60, 61, 62, 63, 64, 65, 66, 67, 68, 69, 70, 71, 72, 73, 74, 75, 76, 77, 78, 79, 80, 81, 82, 83, 1, 2, 3, 4, 5, 6, 7, 8, 9, 10, 11] rfl
    refine va_callv (va_runV (As := [.ref (aN 0)]) (rest := []) ⟨hx, hb, hml, hown, hts⟩ (met_X0_save l dC dI cI cZ cS aH ah aN G Z S H1.size) (cwV 1 hts gX6_fill_X0_save rfl rfl rfl (by decide +kernel) ⟨Nat.le_of_ble_eq_true rfl, Nat.le_of_ble_eq_true rfl⟩) (pV (wc := wHi cS aH ah G ++ (wZs cI ah Z ++ (wSt cI aN S))) (ci := 0) (q0 := 16) hK hP hD hN [16, 17, 18, 19, 20, 21, 22, 23, 24, 25, 26, 27, 28, 29, 30, 31, 32, 33, 34, 35, 36, 37, 38, 39, 40, 41, 42, 43, 44, 45, 46, 47, 48, 49, 50, 51, 52, 53, 54, 55, 56, 57, 58, 59, 60, 61, 62, 63, 64, 65, 66, 67, 68, 69, 70, 71, 72, 73, 74, 75, 76, 77, 78, 79, 80, 81, 82, 83, 1, 2, 3, 4, 5, 6, 7, 8, 9, 10, 11] rfl (by decide) rfl rfl) rfl rfl hl.1 rfl (lv_room (Nat.le_of_ble_eq_true rfl)) dX6_fill_25 ⟨Nat.zero_le _, Nat.zero_le _⟩) hS (fun q _ h => hF q h) hF (fun  u t H2 locs ht hvm hw hB hz1 hk1 hS => ?_)
    obtain ⟨u4, u5⟩ := u
    try dsimp only at hw hB
    rw [ht] at hB
    have hR := bd2_n hw hR
    have hP := wrk2 (w2 := wFm aF aN aT aL aO aH aP aX ++ (wSt cI aN S ++ (wLo cI aL Y ++ (wOu aO aN aL ++ (wHi cS aH ah u4 ++ (wZs cI ah u5)))))) (wr := wFm aF aN aT aL aO aH aP aX ++ (wLo cI aL Y ++ (wOu aO aN aL))) hP hD [16, 17, 18, 19, 20, 21, 22, 23, 24, 25, 26, 27, 28, 29, 30, 31, 32, 33, 34, 35, 36, 37, 38, 39, 40, 41, 42, 43, 44, 45, 46, 47, 48, 49, 50, 51, 52, 53, 54, 55, 56, 57, 58, 59, 60, 61, 62, 63, 64, 65, 66, 67, 68, 69, 70, 71, 72, 73, 74, 75, 76, 77, 78, 79, 80, 81, 82, 83, 1, 2, 3, 4, 5, 6, 7, 8, 9, 10, 11] [0, 12, 13, 14, 15] rfl rfl (by decide) hk1 hB [0, 73, 74, 75, 76, 77, 78, 79, 80, 81, 82, 83, 1, 2, 3, 4, 5, 6, 7, 8, 9, 10, 11, 12, 13, 14, 15, 16, 17, 18, 19, 20, 21, 22, 23, 24, 25, 26, 27, 28, 29, 30, 31, 32, 33, 34, 35, 36, 37, 38, 39, 40, 41, 42, 43, 44, 45, 46, 47, 48, 49, 50, 51, 52, 53, 54, 55, 56, 57, 58, 59, 60, 61, 62, 63, 64, 65, 66, 67, 68, 69, 70, 71, 72] rfl
    have hD := D_addr (w1 := wFm aF aN aT aL aO aH aP aX ++ (wSt cI aN S ++ (wLo cI aL Y ++ (wOu aO aN aL ++ (wHi cS aH ah u4 ++ (wZs cI ah u5)))))) hD rfl
    refine lv_iconst (v := (0 : Int32)) hx hb dX6_fill_28 (by decide) ?_
    refine lv_istore_n (lv' := [(2, .int (0 : Int32)), (0, .ref (aF 0)), (1, .int p1)]) hx hb dX6_fill_29 rfl hl (by decide) rfl (fun ls hl => ?_)
    refine lv_iconst (v := (0 : Int32)) hx hb dX6_fill_30 (by decide) ?_
    refine lv_istore_n (lv' := [(3, .int (0 : Int32)), (2, .int (0 : Int32)), (0, .ref (aF 0)), (1, .int p1)]) hx hb dX6_fill_31 rfl hl (by decide) rfl (fun ls hl => ?_)
    have LOOP32 : ∀ (k : Int32 → Pic → Pic → Pic → (Nat → Pic) → (Option (Int32 × Int32 × Pic × Pic × Pic × (Nat → Pic)))), (∀ (x2_32 : Int32) (S_32 : Pic) (Y_32 : Pic) (G_32 : Pic) (Z_32 : (Nat → Pic)) (H3 : Heap) (locs : List Loc), k x2_32 S_32 Y_32 G_32 Z_32 = some res → va_P (dC, dI) vwCl (wFm aF aN aT aL aO aH aP aX ++ (wSt cI aN S_32 ++ (wLo cI aL Y_32 ++ (wOu aO aN aL ++ (wHi cS aH ah G_32 ++ (wZs cI ah Z_32)))))) H3 → va_D A (wFm aF aN aT aL aO aH aP aX ++ (wSt cI aN S_32 ++ (wLo cI aL Y_32 ++ (wOu aO aN aL ++ (wHi cS aH ah G_32 ++ (wZs cI ah Z_32)))))) → va_S A s.heap H3 locs → ∀ (ls : Array Slot), lv_has ls 5 [(2, .int x2_32)] → W p l e (headSpec wsX6_fill rm_X6_fill).room s m ([.ref (aF 0), .int p1] : List Value).toArray below meth c H3 locs 0 0 (vx_MQ below (q_X6_fill dC dI cI cZ cS aF aN aT aL aO aH ah aP aX res A) (x_X6_fill dC dI cI cZ cS aF aN aT aL aO aH ah aP aX res A) ([.ref (aF 0), .int p1] : List Value).toArray s 1 6 A) (F0 m 80 ls [])) → ∀ (nf : Nat) (x2_32 : Int32) (x3_32 : Int32) (S_32 : Pic) (Y_32 : Pic) (G_32 : Pic) (Z_32 : (Nat → Pic)) (H3 : Heap) (locs : List Loc), ((3 : Int32)).toInt - (x3_32).toInt ≤ (nf : Int) → f6_fill_L32 p1 nf x2_32 x3_32 S_32 Y_32 G_32 Z_32 k = some res → va_P (dC, dI) vwCl (wFm aF aN aT aL aO aH aP aX ++ (wSt cI aN S_32 ++ (wLo cI aL Y_32 ++ (wOu aO aN aL ++ (wHi cS aH ah G_32 ++ (wZs cI ah Z_32)))))) H3 → va_D A (wFm aF aN aT aL aO aH aP aX ++ (wSt cI aN S_32 ++ (wLo cI aL Y_32 ++ (wOu aO aN aL ++ (wHi cS aH ah G_32 ++ (wZs cI ah Z_32)))))) → va_S A s.heap H3 locs → ∀ (ls : Array Slot), lv_has ls 5 [(2, .int x2_32), (3, .int x3_32), (0, .ref (aF 0)), (1, .int p1)] → W p l e (headSpec wsX6_fill rm_X6_fill).room s m ([.ref (aF 0), .int p1] : List Value).toArray below meth c H3 locs 0 0 (vx_MQ below (q_X6_fill dC dI cI cZ cS aF aN aT aL aO aH ah aP aX res A) (x_X6_fill dC dI cI cZ cS aF aN aT aL aO aH ah aP aX res A) ([.ref (aF 0), .int p1] : List Value).toArray s 1 6 A) (F0 m 32 ls []) := by
      intro k hk nf
      induction nf with
      | zero =>
        intro x2_32 x3_32 S_32 Y_32 G_32 Z_32 H3 locs hfu hR hP hD hS ls hl
        rw [f6_fill_L32] at hR
        refine lv_iload_n hx hb dX6_fill_32 rfl (lv_at hl 1 rfl) ?_
        refine lv_iconst (v := (3 : Int32)) hx hb dX6_fill_33 (by decide) ?_
        refine lv_icmp_ge (tgt := 80) hx hb dX6_fill_34 (by decide) (fun c_6 => ?_) (fun c_6 => ?_)
        · skip
          exact hk x2_32 S_32 Y_32 G_32 Z_32 _ _  hR hP hD hS ls (lv_sub hl [0] rfl)
        · exact (fuel0 hfu c_6).elim
      | succ nf ih =>
        intro x2_32 x3_32 S_32 Y_32 G_32 Z_32 H3 locs hfu hR hP hD hS ls hl
        rw [f6_fill_L32] at hR
        refine lv_iload_n hx hb dX6_fill_32 rfl (lv_at hl 1 rfl) ?_
        refine lv_iconst (v := (3 : Int32)) hx hb dX6_fill_33 (by decide) ?_
        refine lv_icmp_ge (tgt := 80) hx hb dX6_fill_34 (by decide) (fun c_7 => ?_) (fun c_7 => ?_)
        · rw [if_pos c_7] at hR
          exact hk x2_32 S_32 Y_32 G_32 Z_32 _ _  hR hP hD hS ls (lv_sub hl [0] rfl)
        · rw [if_neg c_7] at hR
          have hfu := fuelS hfu c_7
          refine lv_aload_n hx hb dX6_fill_37 rfl (lv_at hl 2 rfl) ?_
          refine va_get (D := (dC, dI)) (ci := 6) (v := .ref (aO 0)) (C := RX6) (T := TX6) (N := 7) hx hb hts hin6 hown hK hP 0 rfl rfl 3 (by decide) (hw_ hts 5 rfl) (fun _ h9 => h9) rfl dX6_fill_38 ?_
          refine lv_iload_n hx hb dX6_fill_41 rfl (lv_at hl 3 rfl) ?_
          refine lv_iload_n hx hb dX6_fill_42 rfl (lv_at hl 1 rfl) ?_
          obtain ⟨r8, u9, u10, hc11, hR⟩ := ob3_e hR
          have hF := va_free (wc := wOu aO aN aL ++ (wLo cI aL Y_32 ++ (wSt cI aN S_32))) hD hS hA [15, 12, 13, 14, 1, 2, 3, 4, 5, 6, 7, 8, 9, 10, 11] rfl
          refine va_calli (va_runV (As := [.int p1, .int x3_32]) (rest := []) ⟨hx, hb, hml, hown, hts⟩ (met_X2_bestDish l dC dI cI cZ cS aO aL aN Y_32 S_32 H3.size p1 x3_32 (r8, u9, u10) hc11) (cwV 2 hts gX6_fill_X2_bestDish rfl rfl rfl (by decide +kernel) ⟨Nat.le_of_ble_eq_true rfl, Nat.le_of_ble_eq_true rfl⟩) (pV (wc := wOu aO aN aL ++ (wLo cI aL Y_32 ++ (wSt cI aN S_32))) (ci := 2) (q0 := 15) hK hP hD hN [15, 12, 13, 14, 1, 2, 3, 4, 5, 6, 7, 8, 9, 10, 11] rfl (by decide) rfl rfl) rfl rfl hl.1 rfl (lv_room (Nat.le_of_ble_eq_true rfl)) dX6_fill_43 ⟨Nat.zero_le _, Nat.zero_le _⟩) hS (fun q _ h => hF q h) hF (fun r8 u t H4 locs ht hvm hw hB hz1 hk1 hS => ?_)
          obtain ⟨u9, u10⟩ := u
          try dsimp only at hw hB
          rw [ht] at hB
          cases hw
          have hP := wrk2 (w2 := wFm aF aN aT aL aO aH aP aX ++ (wSt cI aN u10 ++ (wLo cI aL u9 ++ (wOu aO aN aL ++ (wHi cS aH ah G_32 ++ (wZs cI ah Z_32)))))) (wr := wFm aF aN aT aL aO aH aP aX ++ (wHi cS aH ah G_32 ++ (wZs cI ah Z_32))) hP hD [15, 12, 13, 14, 1, 2, 3, 4, 5, 6, 7, 8, 9, 10, 11] [0, 16, 17, 18, 19, 20, 21, 22, 23, 24, 25, 26, 27, 28, 29, 30, 31, 32, 33, 34, 35, 36, 37, 38, 39, 40, 41, 42, 43, 44, 45, 46, 47, 48, 49, 50, 51, 52, 53, 54, 55, 56, 57, 58, 59, 60, 61, 62, 63, 64, 65, 66, 67, 68, 69, 70, 71, 72, 73, 74, 75, 76, 77, 78, 79, 80, 81, 82, 83] rfl rfl (by decide) hk1 hB [0, 73, 74, 75, 76, 77, 78, 79, 80, 81, 82, 83, 70, 71, 72, 69, 1, 2, 3, 4, 5, 6, 7, 8, 9, 10, 11, 12, 13, 14, 15, 16, 17, 18, 19, 20, 21, 22, 23, 24, 25, 26, 27, 28, 29, 30, 31, 32, 33, 34, 35, 36, 37, 38, 39, 40, 41, 42, 43, 44, 45, 46, 47, 48, 49, 50, 51, 52, 53, 54, 55, 56, 57, 58, 59, 60, 61, 62, 63, 64, 65, 66, 67, 68] rfl
          have hD := D_addr (w1 := wFm aF aN aT aL aO aH aP aX ++ (wSt cI aN u10 ++ (wLo cI aL u9 ++ (wOu aO aN aL ++ (wHi cS aH ah G_32 ++ (wZs cI ah Z_32)))))) hD rfl
          refine lv_istore (lv' := [(4, .int r8), (2, .int x2_32), (3, .int x3_32), (0, .ref (aF 0)), (1, .int p1)]) hx hb dX6_fill_46 hl (by decide) rfl (fun ls hl => ?_)
          refine lv_iload hx hb dX6_fill_48 (lv_at hl 0 rfl) ?_
          refine lv_iconst (v := (-1 : Int32)) hx hb dX6_fill_50 (by decide) ?_
          refine lv_icmp_eq (tgt := 74) hx hb dX6_fill_51 (by decide) (fun c_12 => ?_) (fun c_12 => ?_)
          · rw [if_pos c_12] at hR
            refine lv_iinc (v := (x3_32 + 1)) (lv' := [(3, .int (x3_32 + 1)), (4, .int r8), (2, .int x2_32), (0, .ref (aF 0)), (1, .int p1)]) hx hb dX6_fill_74 hl (k := 2) rfl rfl (by decide) rfl (fun ls hl => ?_)
            refine lv_goto (tgt := 32) hx hb dX6_fill_77 (by decide) ?_
            exact ih x2_32 (x3_32 + 1) u10 u9 G_32 Z_32 _ _ hfu hR hP hD hS ls (lv_sub hl [2, 0, 3, 4] rfl)
          · rw [if_neg c_12] at hR
            refine lv_aload_n hx hb dX6_fill_54 rfl (lv_at hl 3 rfl) ?_
            refine va_get (D := (dC, dI)) (ci := 6) (v := .ref (aN 0)) (C := RX6) (T := TX6) (N := 7) hx hb hts hin6 hown hK hP 0 rfl rfl 0 (by decide) (hw_ hts 4 rfl) (fun _ h9 => h9) rfl dX6_fill_55 ?_
            refine va_get (D := (dC, dI)) (ci := 5) (v := .ref (aN 11)) (C := RX5) (T := TX5) (N := 12) hx hb hts hin5 hown hK hP 1 rfl rfl 11 (by decide) (hw_ hts 6 rfl) (fun _ h9 => h9) rfl dX6_fill_58 ?_
            refine lv_iload_n hx hb dX6_fill_61 rfl (lv_at hl 4 rfl) ?_
            refine lv_iload_n hx hb dX6_fill_62 rfl (lv_at hl 2 rfl) ?_
            refine va_calli (va_runS (As := [.int p1, .int x3_32]) (rest := [.ref (aN 11)]) ⟨hx, hb, hml, hown, hts⟩ (met_X6_cellOf l dC dI cI cZ cS H4.size p1 x3_32) (va_cwS 2 hts gX6_fill_X6_cellOf rfl rfl rfl (by decide +kernel) ⟨Nat.le_of_ble_eq_true rfl, Nat.le_of_ble_eq_true rfl⟩) (pS (wc := []) hK hP hD hN [] rfl (by decide)) rfl rfl hl.1 rfl (lv_room (Nat.le_of_ble_eq_true rfl)) dX6_fill_63 ⟨Nat.zero_le _, Nat.zero_le _⟩) hS (fun q _ h => a0_in hS hA q h) (a0_in hS hA) (fun r13 u t H5 locs ht hvm hw hB hz1 hk1 hS => ?_)
            subst hw
            have hP := rdk hP hk1
            refine lv_iload hx hb dX6_fill_66 (lv_at hl 0 rfl) ?_
            have hF := va_free (wc := [((aN 11), .inl (cI, 84, .inl (u10 11)))]) hD hS hA [11] rfl
            refine va_callv (va_runS (As := [.ref (aN 11), .int (f6_cellOf p1 x3_32), .int r8]) (rest := []) ⟨hx, hb, hml, hown, hts⟩ (met_X6_put l dC dI cI cZ cS (aN 11) 84 (by decide) (u10 11) H5.size (f6_cellOf p1 x3_32) r8) (va_cwS 3 hts gX6_fill_X6_put rfl rfl rfl (by decide +kernel) ⟨Nat.le_of_ble_eq_true rfl, Nat.le_of_ble_eq_true rfl⟩) (pS (wc := [((aN 11), .inl (cI, 84, .inl (u10 11)))]) hK hP hD hN [11] rfl (by decide)) rfl rfl hl.1 rfl (lv_room (Nat.le_of_ble_eq_true rfl)) dX6_fill_68 ⟨Nat.zero_le _, Nat.zero_le _⟩) hS (fun q _ h => hF q h) hF (fun  u14 t H6 locs ht hvm hw hB hz1 hk1 hS => ?_)
            try dsimp only at hw hB
            rw [ht] at hB
            subst hw
            have hP := wrk (w2 := wFm aF aN aT aL aO aH aP aX ++ (wSt cI aN (pset u10 11 (f6_put 84 (u10 11) (f6_cellOf p1 x3_32) r8)) ++ (wLo cI aL u9 ++ (wOu aO aN aL ++ (wHi cS aH ah G_32 ++ (wZs cI ah Z_32)))))) hP hD [11] rfl (by decide) hk1 hB rfl rfl
            have hD := D_addr (w1 := wFm aF aN aT aL aO aH aP aX ++ (wSt cI aN (pset u10 11 (f6_put 84 (u10 11) (f6_cellOf p1 x3_32) r8)) ++ (wLo cI aL u9 ++ (wOu aO aN aL ++ (wHi cS aH ah G_32 ++ (wZs cI ah Z_32)))))) hD rfl
            obtain ⟨Sb15, hSb15⟩ : ∃ z : Pic, z = (pset u10 11 (f6_put 84 (u10 11) (f6_cellOf p1 x3_32) r8)) := ⟨_, rfl⟩
            rw [← hSb15] at hP hD
            have hR := bd_n hSb15 hR
            refine lv_iinc (v := (x2_32 + 1)) (lv' := [(2, .int (x2_32 + 1)), (4, .int r8), (3, .int x3_32), (0, .ref (aF 0)), (1, .int p1)]) hx hb dX6_fill_71 hl (k := 1) rfl rfl (by decide) rfl (fun ls hl => ?_)
            refine lv_iinc (v := (x3_32 + 1)) (lv' := [(3, .int (x3_32 + 1)), (2, .int (x2_32 + 1)), (4, .int r8), (0, .ref (aF 0)), (1, .int p1)]) hx hb dX6_fill_74 hl (k := 2) rfl rfl (by decide) rfl (fun ls hl => ?_)
            refine lv_goto (tgt := 32) hx hb dX6_fill_77 (by decide) ?_
            exact ih (x2_32 + 1) (x3_32 + 1) Sb15 u9 G_32 Z_32 _ _ hfu hR hP hD hS ls (lv_sub hl [1, 0, 3, 4] rfl)
    refine LOOP32 (fun x2_32 S_32 Y_32 G_32 Z_32 => (some ((0 : Int32), x2_32, S_32, Y_32, G_32, Z_32))) (fun x2_32 S_32 Y_32 G_32 Z_32 H3 locs hR hP hD hS ls hl => ?_) 3 (0 : Int32) (0 : Int32) S Y u4 u5 _ _ (by decide) hR hP hD hS ls (lv_sub hl [1, 0, 2, 3] rfl)
    try dsimp only at hR
    refine lv_iload_n hx hb dX6_fill_80 rfl (lv_at hl 0 rfl) ?_
    exact vx_ret (W.widen (k := 1) (n := 6) (Nat.zero_le _) (Nat.zero_le _) (W.iret (v := x2_32) hx hb hr (fun t ht hW => ⟨⟨x2_32, (S_32, Y_32, G_32, Z_32), rfl, Option.some.inj hR, P_at ht hP⟩, hS.F ht⟩) hS.2.2 dX6_fill_81))
  · rw [if_pos c_3] at hR
    obtain ⟨sa, hsa⟩ := hXW.1 202 (by decide)
    exact vx_throwS (text := strT 202) (sa := sa) (A := A) (names := ["java/lang/RuntimeException", "java/lang/Exception"]) (cls := "java/lang/IndexOutOfBoundsException") hx hb hfl hown (by decide) (by decide) (hw_ hts 1 rfl) (hw_ hts 2 rfl) hsa (thr_at1 hXW (fun w h => hts w (List.mem_cons_of_mem _ (List.mem_append_right _ h)))) (by decide +kernel) hU hNs hS (hl.1.trans hml.symm) dX6_fill_7 dX6_fill_10 dX6_fill_11 dX6_fill_13 dX6_fill_16 (fun x hx => (htab x hx).elim) (Nat.lt_of_sub_pos (Nat.le_of_ble_eq_true rfl)) (Nat.le_of_ble_eq_true rfl) (Nat.le_of_ble_eq_true rfl) (Nat.le_of_ble_eq_true rfl) hlocks (fun t h1 h2 h3 => ⟨(S, Y, G, Z), trivial, ⟨(1 : Int32), rfl, by decide, Option.some.inj hR, thr_P hP h3⟩, thr_F hS h2 h3⟩) hS.2.2 (Nat.le_of_ble_eq_true rfl) (Nat.le_of_ble_eq_true rfl)
abbrev rm_X6_read : Room := { frames := 6, cells := 1, slots := 6, locals := 149 }
abbrev x_X6_read (dC : Nat → ClassId) (dI : Nat → Nat → Nat) (cI cZ cS : ClassId) (aF aN aT aL aO aH : Nat → Nat) (ah : Nat → Nat → Nat) (aP aX : Nat → Nat)  (res : Int32 × Int32 × Pic × Pic × Pic × (Nat → Pic) × Pic) (A : Nat → Prop) : String → State → State → Prop := vx_X (fun (_ : Pic × Pic × Pic × (Nat → Pic) × Pic) => True) (fun E u t => ∃ c : Int32, exN c = E ∧ ¬ c = 0 ∧ (c, (0 : Int32), u) = res ∧ va_P (dC, dI) vwCl (wFm aF aN aT aL aO aH aP aX ++ (wSt cI aN u.1 ++ (wLo cI aL u.2.1 ++ (wOu aO aN aL ++ (wHi cS aH ah u.2.2.1 ++ (wZs cI ah u.2.2.2.1 ++ (wTx cI aX u.2.2.2.2))))))) t.heap) A
abbrev q_X6_read (dC : Nat → ClassId) (dI : Nat → Nat → Nat) (cI cZ cS : ClassId) (aF aN aT aL aO aH : Nat → Nat) (ah : Nat → Nat → Nat) (aP aX : Nat → Nat)  (res : Int32 × Int32 × Pic × Pic × Pic × (Nat → Pic) × Pic) (A : Nat → Prop) : Array Value → State → Outcome → State → Prop := va_Qi (fun (r : Int32) (u : Pic × Pic × Pic × (Nat → Pic) × Pic) => ((0 : Int32), r, u) = res) (fun u t => va_P (dC, dI) vwCl (wFm aF aN aT aL aO aH aP aX ++ (wSt cI aN u.1 ++ (wLo cI aL u.2.1 ++ (wOu aO aN aL ++ (wHi cS aH ah u.2.2.1 ++ (wZs cI ah u.2.2.2.1 ++ (wTx cI aX u.2.2.2.2))))))) t.heap) A
set_option maxHeartbeats 4000000 in
set_option maxRecDepth 100000 in
theorem met_X6_read (l : Launch) (hfl : l.stackTraces = false) (dC : Nat → ClassId) (dI : Nat → Nat → Nat) (cI cZ cS : ClassId) (aF aN aT aL aO aH : Nat → Nat) (ah : Nat → Nat → Nat) (aP aX : Nat → Nat) (S : Pic) (Y : Pic) (G : Pic) (Z : (Nat → Pic)) (T : Pic) (base sz : Nat)  : vx_Met l yX6_read wsX6_read rm_X6_read (va_Pc [.ref (aF 0)] (pX (dC, dI) (tyS cI cZ cS) (wFm aF aN aT aL aO aH aP aX ++ (wSt cI aN S ++ (wLo cI aL Y ++ (wOu aO aN aL ++ (wHi cS aH ah G ++ (wZs cI ah Z ++ (wTx cI aX T))))))) base sz)) (q_X6_read dC dI cI cZ cS aF aN aT aL aO aH ah aP aX (f6_read S Y G Z T) (va_A (wFm aF aN aT aL aO aH aP aX ++ (wSt cI aN S ++ (wLo cI aL Y ++ (wOu aO aN aL ++ (wHi cS aH ah G ++ (wZs cI ah Z ++ (wTx cI aX T))))))) sz)) (x_X6_read dC dI cI cZ cS aF aN aT aL aO aH ah aP aX (f6_read S Y G Z T) (va_A (wFm aF aN aT aL aO aH aP aX ++ (wSt cI aN S ++ (wLo cI aL Y ++ (wOu aO aN aL ++ (wHi cS aH ah G ++ (wZs cI ah Z ++ (wTx cI aX T))))))) sz)) 1 6 (va_A (wFm aF aN aT aL aO aH aP aX ++ (wSt cI aN S ++ (wLo cI aL Y ++ (wOu aO aN aL ++ (wHi cS aH ah G ++ (wZs cI ah Z ++ (wTx cI aX T))))))) sz) := by
  refine vx_ofW (cc := cX6_read) (maxL := 6) (ret := (some .int)) (by decide) rfl ?_
  intro p e s m args below meth c s₁ B hml htab hv
  obtain ⟨rfl, hsz, hP, hK, hD0, hN, hbs, hXW⟩ := hv
  have hx := B.exec
  have hb := B.bytes
  have hr := B.returns
  have hts := atoms_spec (ws := wsX6_read) B.pre
  have hown : s.vm.findClass RX6 = some m.cls := findClass_of_methodNamed B.named
  have hlocks := B.notSynchronized
  subst hsz
  have hD := hD0.self (sz := s.heap.size)
  generalize hAe : va_A (wFm aF aN aT aL aO aH aP aX ++ (wSt cI aN S ++ (wLo cI aL Y ++ (wOu aO aN aL ++ (wHi cS aH ah G ++ (wZs cI ah Z ++ (wTx cI aX T))))))) s.heap.size = A at hD ⊢
  have hA : ∀ q : Nat, s.heap.size ≤ q → A q := fun q h => by rw [← hAe]; exact Or.inr h
  have hS : va_S A s.heap s.heap [] := va_S.rf
  have hAb : ∀ q, A q → base ≤ q := fun q h => by rw [← hAe] at h; exact base_of hD0 hbs q h
  have hU := hXW.2.1.narrow hAb
  have hNs := hXW.2.2.1.narrow hAb
  have hP : va_P (dC, dI) vwCl (wFm aF aN aT aL aO aH aP aX ++ (wSt cI aN S ++ (wLo cI aL Y ++ (wOu aO aN aL ++ (wHi cS aH ah G ++ (wZs cI ah Z ++ (wTx cI aX T))))))) s.heap := hP
  generalize hR : f6_read S Y G Z T = res
  rw [f6_read] at hR
  have hin6 : ∀ w ∈ wsX60, w ∈ wsX6_read := by decide +kernel
  have hl := lv_entry ([.ref (aF 0)]) (n := 6) (Nat.le_of_ble_eq_true rfl)
  rw [lg_entry_eq]
  generalize (lg_sl ([.ref (aF 0)]) ++ List.replicate (6 - (lg_sl ([.ref (aF 0)])).length) Slot.unset).toArray = ls at hl ⊢
  have hl : lv_has ls 6 [(0, .ref (aF 0))] := hl
  refine lv_aload_n hx hb dX6_read_0 rfl (lv_at hl 0 rfl) ?_
  refine va_get (D := (dC, dI)) (ci := 6) (v := .ref (aX 0)) (C := RX6) (T := TX6) (N := 7) hx hb hts hin6 hown hK hP 0 rfl rfl 6 (by decide) (hw_ hts 3 rfl) (fun _ h9 => h9) rfl dX6_read_1 ?_
  refine va_calli (va_runV (As := []) (rest := []) ⟨hx, hb, hml, hown, hts⟩ (met_X3_isComplete l dC dI cI cZ cS aX T s.heap.size) (cwV 0 hts gX6_read_X3_isComplete rfl rfl rfl (by decide +kernel) ⟨Nat.le_of_ble_eq_true rfl, Nat.le_of_ble_eq_true rfl⟩) (pV (wc := wTx cI aX T) (ci := 3) (q0 := 84) hK hP hD hN [84, 85] rfl (by decide) rfl rfl) rfl rfl hl.1 rfl (lv_room (Nat.le_of_ble_eq_true rfl)) dX6_read_4 ⟨Nat.zero_le _, Nat.zero_le _⟩) hS (fun q _ h => a0_in hS hA q h) (a0_in hS hA) (fun r1 u t H1 locs ht hvm hw hB hz1 hk1 hS => ?_)
  obtain ⟨hw, nb2⟩ := hw
  have hR := bd_n hw hR
  have hP := rdk hP hk1
  refine lv_if_ne (tgt := 20) hx hb dX6_read_7 (by decide) (fun c_3 => ?_) (fun c_3 => ?_)
  · rw [if_neg c_3] at hR
    refine lv_aload_n hx hb dX6_read_20 rfl (lv_at hl 0 rfl) ?_
    refine va_get (D := (dC, dI)) (ci := 6) (v := .ref (aH 0)) (C := RX6) (T := TX6) (N := 7) hx hb hts hin6 hown hK hP 0 rfl rfl 4 (by decide) (hw_ hts 4 rfl) (fun _ h9 => h9) rfl dX6_read_21 ?_
    refine lv_aload_n hx hb dX6_read_24 rfl (lv_at hl 0 rfl) ?_
    refine va_get (D := (dC, dI)) (ci := 6) (v := .ref (aN 0)) (C := RX6) (T := TX6) (N := 7) hx hb hts hin6 hown hK hP 0 rfl rfl 0 (by decide) (hw_ hts 5 rfl) (fun _ h9 => h9) rfl dX6_read_25 ?_
    have hF := va_free (wc := wHi cS aH ah G ++ (wZs cI ah Z ++ (wSt cI aN S))) hD hS hA [16, 17, 18, 19, 20, 21, 22, 23, 24, 25, 26, 27, 28, 29, 30, 31, 32, 33, 34, 35, 36, 37, 38, 39, 40, 41, 42, 43, 44, 45, 46, 47, 48, 49, 50, 51, 52, 53, 54, 55, 56, 57, 58, 59, 60, 61, 62, 63, 64, 65, 66, 67, 68, 69, 70, 71, 72, 73, 74, 75, 76, 77, 78, 79, 80, 81, 82, 83, 1, 2, 3, 4, 5, 6, 7, 8, 9, 10, 11] rfl
    refine va_callv (va_runV (As := [.ref (aN 0)]) (rest := []) ⟨hx, hb, hml, hown, hts⟩ (met_X0_save l dC dI cI cZ cS aH ah aN G Z S H1.size) (cwV 1 hts gX6_read_X0_save rfl rfl rfl (by decide +kernel) ⟨Nat.le_of_ble_eq_true rfl, Nat.le_of_ble_eq_true rfl⟩) (pV (wc := wHi cS aH ah G ++ (wZs cI ah Z ++ (wSt cI aN S))) (ci := 0) (q0 := 16) hK hP hD hN [16, 17, 18, 19, 20, 21, 22, 23, 24, 25, 26, 27, 28, 29, 30, 31, 32, 33, 34, 35, 36, 37, 38, 39, 40, 41, 42, 43, 44, 45, 46, 47, 48, 49, 50, 51, 52, 53, 54, 55, 56, 57, 58, 59, 60, 61, 62, 63, 64, 65, 66, 67, 68, 69, 70, 71, 72, 73, 74, 75, 76, 77, 78, 79, 80, 81, 82, 83, 1, 2, 3, 4, 5, 6, 7, 8, 9, 10, 11] rfl (by decide) rfl rfl) rfl rfl hl.1 rfl (lv_room (Nat.le_of_ble_eq_true rfl)) dX6_read_28 ⟨Nat.zero_le _, Nat.zero_le _⟩) hS (fun q _ h => hF q h) hF (fun  u t H2 locs ht hvm hw hB hz1 hk1 hS => ?_)
    obtain ⟨u4, u5⟩ := u
    try dsimp only at hw hB
    rw [ht] at hB
    have hR := bd2_n hw hR
    have hP := wrk2 (w2 := wFm aF aN aT aL aO aH aP aX ++ (wSt cI aN S ++ (wLo cI aL Y ++ (wOu aO aN aL ++ (wHi cS aH ah u4 ++ (wZs cI ah u5 ++ (wTx cI aX T))))))) (wr := wFm aF aN aT aL aO aH aP aX ++ (wLo cI aL Y ++ (wOu aO aN aL ++ (wTx cI aX T)))) hP hD [16, 17, 18, 19, 20, 21, 22, 23, 24, 25, 26, 27, 28, 29, 30, 31, 32, 33, 34, 35, 36, 37, 38, 39, 40, 41, 42, 43, 44, 45, 46, 47, 48, 49, 50, 51, 52, 53, 54, 55, 56, 57, 58, 59, 60, 61, 62, 63, 64, 65, 66, 67, 68, 69, 70, 71, 72, 73, 74, 75, 76, 77, 78, 79, 80, 81, 82, 83, 1, 2, 3, 4, 5, 6, 7, 8, 9, 10, 11] [0, 12, 13, 14, 15, 84, 85] rfl rfl (by decide) hk1 hB [0, 75, 76, 77, 78, 79, 80, 81, 82, 83, 84, 85, 1, 2, 3, 4, 7, 8, 9, 10, 11, 12, 13, 14, 15, 16, 17, 18, 19, 20, 21, 22, 23, 24, 25, 26, 27, 28, 29, 30, 31, 32, 33, 34, 35, 36, 37, 38, 39, 40, 41, 42, 43, 44, 45, 46, 47, 48, 49, 50, 51, 52, 53, 54, 55, 56, 57, 58, 59, 60, 61, 62, 63, 64, 65, 66, 67, 68, 69, 70, 71, 72, 73, 74, 5, 6] rfl
    have hD := D_addr (w1 := wFm aF aN aT aL aO aH aP aX ++ (wSt cI aN S ++ (wLo cI aL Y ++ (wOu aO aN aL ++ (wHi cS aH ah u4 ++ (wZs cI ah u5 ++ (wTx cI aX T))))))) hD rfl
    refine lv_iconst (v := (0 : Int32)) hx hb dX6_read_31 (by decide) ?_
    refine lv_istore_n (lv' := [(1, .int (0 : Int32)), (0, .ref (aF 0))]) hx hb dX6_read_32 rfl hl (by decide) rfl (fun ls hl => ?_)
    refine lv_aload_n hx hb dX6_read_33 rfl (lv_at hl 1 rfl) ?_
    refine va_get (D := (dC, dI)) (ci := 6) (v := .ref (aX 0)) (C := RX6) (T := TX6) (N := 7) hx hb hts hin6 hown hK hP 0 rfl rfl 6 (by decide) (hw_ hts 3 rfl) (fun _ h9 => h9) rfl dX6_read_34 ?_
    refine va_calli (va_runV (As := []) (rest := []) ⟨hx, hb, hml, hown, hts⟩ (met_X3_entryCount l dC dI cI cZ cS aX T H2.size) (cwV 0 hts gX6_read_X3_entryCount rfl rfl rfl (by decide +kernel) ⟨Nat.le_of_ble_eq_true rfl, Nat.le_of_ble_eq_true rfl⟩) (pV (wc := wTx cI aX T) (ci := 3) (q0 := 84) hK hP hD hN [84, 85] rfl (by decide) rfl rfl) rfl rfl hl.1 rfl (lv_room (Nat.le_of_ble_eq_true rfl)) dX6_read_37 ⟨Nat.zero_le _, Nat.zero_le _⟩) hS (fun q _ h => a0_in hS hA q h) (a0_in hS hA) (fun r6 u t H3 locs ht hvm hw hB hz1 hk1 hS => ?_)
    have hR := bd_n hw hR
    have hP := rdk hP hk1
    refine lv_istore_n (lv' := [(2, .int r6), (1, .int (0 : Int32)), (0, .ref (aF 0))]) hx hb dX6_read_40 rfl hl (by decide) rfl (fun ls hl => ?_)
    refine lv_iconst (v := (1 : Int32)) hx hb dX6_read_41 (by decide) ?_
    refine lv_istore_n (lv' := [(3, .int (1 : Int32)), (2, .int r6), (1, .int (0 : Int32)), (0, .ref (aF 0))]) hx hb dX6_read_42 rfl hl (by decide) rfl (fun ls hl => ?_)
    refine lv_iconst (v := (0 : Int32)) hx hb dX6_read_43 (by decide) ?_
    refine lv_istore (lv' := [(4, .int (0 : Int32)), (3, .int (1 : Int32)), (2, .int r6), (1, .int (0 : Int32)), (0, .ref (aF 0))]) hx hb dX6_read_44 hl (by decide) rfl (fun ls hl => ?_)
    have LOOP46 : ∀ (k : Int32 → Pic → Pic → Pic → (Nat → Pic) → Pic → (Int32 × Int32 × Pic × Pic × Pic × (Nat → Pic) × Pic)), (∀ (x1_46 : Int32) (S_46 : Pic) (Y_46 : Pic) (G_46 : Pic) (Z_46 : (Nat → Pic)) (T_46 : Pic) (H4 : Heap) (locs : List Loc), k x1_46 S_46 Y_46 G_46 Z_46 T_46 = res → va_P (dC, dI) vwCl (wFm aF aN aT aL aO aH aP aX ++ (wSt cI aN S_46 ++ (wLo cI aL Y_46 ++ (wOu aO aN aL ++ (wHi cS aH ah G_46 ++ (wZs cI ah Z_46 ++ (wTx cI aX T_46))))))) H4 → va_D A (wFm aF aN aT aL aO aH aP aX ++ (wSt cI aN S_46 ++ (wLo cI aL Y_46 ++ (wOu aO aN aL ++ (wHi cS aH ah G_46 ++ (wZs cI ah Z_46 ++ (wTx cI aX T_46))))))) → va_S A s.heap H4 locs → ∀ (ls : Array Slot), lv_has ls 6 [(1, .int x1_46), (0, .ref (aF 0))] → W p l e (headSpec wsX6_read rm_X6_read).room s m ([.ref (aF 0)] : List Value).toArray below meth c H4 locs 0 0 (vx_MQ below (q_X6_read dC dI cI cZ cS aF aN aT aL aO aH ah aP aX res A) (x_X6_read dC dI cI cZ cS aF aN aT aL aO aH ah aP aX res A) ([.ref (aF 0)] : List Value).toArray s 1 6 A) (F0 m 103 ls [])) → ∀ (nf : Nat) (x1_46 : Int32) (x3_46 : Int32) (x4_46 : Int32) (S_46 : Pic) (Y_46 : Pic) (G_46 : Pic) (Z_46 : (Nat → Pic)) (T_46 : Pic) (H4 : Heap) (locs : List Loc), (r6).toInt - (x4_46).toInt ≤ (nf : Int) → f6_read_L46 r6 nf x1_46 x3_46 x4_46 S_46 Y_46 G_46 Z_46 T_46 k = res → va_P (dC, dI) vwCl (wFm aF aN aT aL aO aH aP aX ++ (wSt cI aN S_46 ++ (wLo cI aL Y_46 ++ (wOu aO aN aL ++ (wHi cS aH ah G_46 ++ (wZs cI ah Z_46 ++ (wTx cI aX T_46))))))) H4 → va_D A (wFm aF aN aT aL aO aH aP aX ++ (wSt cI aN S_46 ++ (wLo cI aL Y_46 ++ (wOu aO aN aL ++ (wHi cS aH ah G_46 ++ (wZs cI ah Z_46 ++ (wTx cI aX T_46))))))) → va_S A s.heap H4 locs → ∀ (ls : Array Slot), lv_has ls 6 [(1, .int x1_46), (3, .int x3_46), (4, .int x4_46), (2, .int r6), (0, .ref (aF 0))] → W p l e (headSpec wsX6_read rm_X6_read).room s m ([.ref (aF 0)] : List Value).toArray below meth c H4 locs 0 0 (vx_MQ below (q_X6_read dC dI cI cZ cS aF aN aT aL aO aH ah aP aX res A) (x_X6_read dC dI cI cZ cS aF aN aT aL aO aH ah aP aX res A) ([.ref (aF 0)] : List Value).toArray s 1 6 A) (F0 m 46 ls []) := by
      intro k hk nf
      induction nf with
      | zero =>
        intro x1_46 x3_46 x4_46 S_46 Y_46 G_46 Z_46 T_46 H4 locs hfu hR hP hD hS ls hl
        rw [f6_read_L46] at hR
        refine lv_iload hx hb dX6_read_46 (lv_at hl 2 rfl) ?_
        refine lv_iload_n hx hb dX6_read_48 rfl (lv_at hl 3 rfl) ?_
        refine lv_icmp_ge (tgt := 103) hx hb dX6_read_49 (by decide) (fun c_7 => ?_) (fun c_7 => ?_)
        · skip
          exact hk x1_46 S_46 Y_46 G_46 Z_46 T_46 _ _  hR hP hD hS ls (lv_sub hl [0, 4] rfl)
        · exact (fuel0 hfu c_7).elim
      | succ nf ih =>
        intro x1_46 x3_46 x4_46 S_46 Y_46 G_46 Z_46 T_46 H4 locs hfu hR hP hD hS ls hl
        rw [f6_read_L46] at hR
        refine lv_iload hx hb dX6_read_46 (lv_at hl 2 rfl) ?_
        refine lv_iload_n hx hb dX6_read_48 rfl (lv_at hl 3 rfl) ?_
        refine lv_icmp_ge (tgt := 103) hx hb dX6_read_49 (by decide) (fun c_8 => ?_) (fun c_8 => ?_)
        · rw [if_pos c_8] at hR
          exact hk x1_46 S_46 Y_46 G_46 Z_46 T_46 _ _  hR hP hD hS ls (lv_sub hl [0, 4] rfl)
        · rw [if_neg c_8] at hR
          have hfu := fuelS hfu c_8
          refine lv_iload_n hx hb dX6_read_52 rfl (lv_at hl 1 rfl) ?_
          refine lv_if_eq (tgt := 103) hx hb dX6_read_53 (by decide) (fun c_9 => ?_) (fun c_9 => ?_)
          · rw [if_pos c_9] at hR
            exact hk x1_46 S_46 Y_46 G_46 Z_46 T_46 _ _  hR hP hD hS ls (lv_sub hl [0, 4] rfl)
          · rw [if_neg c_9] at hR
            refine lv_aload_n hx hb dX6_read_56 rfl (lv_at hl 4 rfl) ?_
            refine va_get (D := (dC, dI)) (ci := 6) (v := .ref (aX 0)) (C := RX6) (T := TX6) (N := 7) hx hb hts hin6 hown hK hP 0 rfl rfl 6 (by decide) (hw_ hts 3 rfl) (fun _ h9 => h9) rfl dX6_read_57 ?_
            refine lv_iload hx hb dX6_read_60 (lv_at hl 2 rfl) ?_
            refine va_calli (va_runV (As := [.int x4_46]) (rest := []) ⟨hx, hb, hml, hown, hts⟩ (met_X3_startOf l dC dI cI cZ cS aX T_46 H4.size x4_46) (cwV 1 hts gX6_read_X3_startOf rfl rfl rfl (by decide +kernel) ⟨Nat.le_of_ble_eq_true rfl, Nat.le_of_ble_eq_true rfl⟩) (pV (wc := wTx cI aX T_46) (ci := 3) (q0 := 84) hK hP hD hN [84, 85] rfl (by decide) rfl rfl) rfl rfl hl.1 rfl (lv_room (Nat.le_of_ble_eq_true rfl)) dX6_read_62 ⟨Nat.zero_le _, Nat.zero_le _⟩) hS (fun q _ h => a0_in hS hA q h) (a0_in hS hA) (fun r10 u t H5 locs ht hvm hw hB hz1 hk1 hS => ?_)
            have hR := bd_n hw hR
            have hP := rdk hP hk1
            refine lv_istore (lv' := [(5, .int r10), (1, .int x1_46), (3, .int x3_46), (4, .int x4_46), (2, .int r6), (0, .ref (aF 0))]) hx hb dX6_read_65 hl (by decide) rfl (fun ls hl => ?_)
            refine lv_aload_n hx hb dX6_read_67 rfl (lv_at hl 5 rfl) ?_
            refine lv_aload_n hx hb dX6_read_68 rfl (lv_at hl 5 rfl) ?_
            refine va_get (D := (dC, dI)) (ci := 6) (v := .ref (aX 0)) (C := RX6) (T := TX6) (N := 7) hx hb hts hin6 hown hK hP 0 rfl rfl 6 (by decide) (hw_ hts 3 rfl) (fun _ h9 => h9) rfl dX6_read_69 ?_
            refine lv_iload hx hb dX6_read_72 (lv_at hl 0 rfl) ?_
            refine va_calli (va_runV (As := [.int r10]) (rest := [.ref (aF 0)]) ⟨hx, hb, hml, hown, hts⟩ (met_X3_dayFrom l dC dI cI cZ cS aX T_46 H5.size r10) (cwV 1 hts gX6_read_X3_dayFrom rfl rfl rfl (by decide +kernel) ⟨Nat.le_of_ble_eq_true rfl, Nat.le_of_ble_eq_true rfl⟩) (pV (wc := wTx cI aX T_46) (ci := 3) (q0 := 84) hK hP hD hN [84, 85] rfl (by decide) rfl rfl) rfl rfl hl.1 rfl (lv_room (Nat.le_of_ble_eq_true rfl)) dX6_read_74 ⟨Nat.zero_le _, Nat.zero_le _⟩) hS (fun q _ h => a0_in hS hA q h) (a0_in hS hA) (fun r11 u t H6 locs ht hvm hw hB hz1 hk1 hS => ?_)
            have hR := bd_n hw hR
            have hP := rdk hP hk1
            refine lv_aload_n hx hb dX6_read_77 rfl (lv_at hl 5 rfl) ?_
            refine va_get (D := (dC, dI)) (ci := 6) (v := .ref (aX 0)) (C := RX6) (T := TX6) (N := 7) hx hb hts hin6 hown hK hP 0 rfl rfl 6 (by decide) (hw_ hts 3 rfl) (fun _ h9 => h9) rfl dX6_read_78 ?_
            refine lv_iload hx hb dX6_read_81 (lv_at hl 0 rfl) ?_
            refine va_calli (va_runV (As := [.int r10]) (rest := [.int r11, .ref (aF 0)]) ⟨hx, hb, hml, hown, hts⟩ (met_X3_dishFrom l dC dI cI cZ cS aX T_46 H6.size r10) (cwV 1 hts gX6_read_X3_dishFrom rfl rfl rfl (by decide +kernel) ⟨Nat.le_of_ble_eq_true rfl, Nat.le_of_ble_eq_true rfl⟩) (pV (wc := wTx cI aX T_46) (ci := 3) (q0 := 84) hK hP hD hN [84, 85] rfl (by decide) rfl rfl) rfl rfl hl.1 rfl (lv_room (Nat.le_of_ble_eq_true rfl)) dX6_read_83 ⟨Nat.zero_le _, Nat.zero_le _⟩) hS (fun q _ h => a0_in hS hA q h) (a0_in hS hA) (fun r12 u t H7 locs ht hvm hw hB hz1 hk1 hS => ?_)
            have hR := bd_n hw hR
            have hP := rdk hP hk1
            have hF := va_free (wc := wFm aF aN aT aL aO aH aP aX ++ (wSt cI aN S_46 ++ (wLo cI aL Y_46 ++ (wOu aO aN aL)))) hD hS hA [0, 1, 2, 3, 4, 5, 6, 7, 8, 9, 10, 11, 12, 13, 14, 15] rfl
            refine va_calli (va_runV (As := [.int r11, .int r12]) (rest := []) ⟨hx, hb, hml, hown, hts⟩ (met_X6_servesIfItCan l dC dI cI cZ cS aF aN aT aL aO aH ah aP aX S_46 Y_46 H7.size r11 r12) (cwV 2 hts gX6_read_X6_servesIfItCan rfl rfl rfl (by decide +kernel) ⟨Nat.le_of_ble_eq_true rfl, Nat.le_of_ble_eq_true rfl⟩) (pV (wc := wFm aF aN aT aL aO aH aP aX ++ (wSt cI aN S_46 ++ (wLo cI aL Y_46 ++ (wOu aO aN aL)))) (ci := 6) (q0 := 0) hK hP hD hN [0, 1, 2, 3, 4, 5, 6, 7, 8, 9, 10, 11, 12, 13, 14, 15] rfl (by decide) rfl rfl) rfl rfl hl.1 rfl (lv_room (Nat.le_of_ble_eq_true rfl)) dX6_read_86 ⟨Nat.zero_le _, Nat.zero_le _⟩) hS (fun q _ h => hF q h) hF (fun r13 u t H8 locs ht hvm hw hB hz1 hk1 hS => ?_)
            obtain ⟨u14, u15⟩ := u
            obtain ⟨hw, nb16⟩ := hw
            try dsimp only at hw hB
            rw [ht] at hB
            have hR := bd3_n hw hR
            have hP := wrk2 (w2 := wFm aF aN aT aL aO aH aP aX ++ (wSt cI aN u14 ++ (wLo cI aL u15 ++ (wOu aO aN aL ++ (wHi cS aH ah G_46 ++ (wZs cI ah Z_46 ++ (wTx cI aX T_46))))))) (wr := wHi cS aH ah G_46 ++ (wZs cI ah Z_46 ++ (wTx cI aX T_46))) hP hD [0, 1, 2, 3, 4, 5, 6, 7, 8, 9, 10, 11, 12, 13, 14, 15] [16, 17, 18, 19, 20, 21, 22, 23, 24, 25, 26, 27, 28, 29, 30, 31, 32, 33, 34, 35, 36, 37, 38, 39, 40, 41, 42, 43, 44, 45, 46, 47, 48, 49, 50, 51, 52, 53, 54, 55, 56, 57, 58, 59, 60, 61, 62, 63, 64, 65, 66, 67, 68, 69, 70, 71, 72, 73, 74, 75, 76, 77, 78, 79, 80, 81, 82, 83, 84, 85] rfl rfl (by decide) hk1 hB [70, 71, 72, 73, 74, 75, 76, 77, 78, 79, 80, 81, 82, 83, 84, 85, 0, 1, 2, 3, 4, 5, 6, 7, 8, 9, 10, 11, 12, 13, 14, 15, 16, 17, 18, 19, 20, 21, 22, 23, 24, 25, 26, 27, 28, 29, 30, 31, 32, 33, 34, 35, 36, 37, 38, 39, 40, 41, 42, 43, 44, 45, 46, 47, 48, 49, 50, 51, 52, 53, 54, 55, 56, 57, 58, 59, 60, 61, 62, 63, 64, 65, 66, 67, 68, 69] rfl
            have hD := D_addr (w1 := wFm aF aN aT aL aO aH aP aX ++ (wSt cI aN u14 ++ (wLo cI aL u15 ++ (wOu aO aN aL ++ (wHi cS aH ah G_46 ++ (wZs cI ah Z_46 ++ (wTx cI aX T_46))))))) hD rfl
            refine lv_istore_n (lv' := [(3, .int r13), (5, .int r10), (1, .int x1_46), (4, .int x4_46), (2, .int r6), (0, .ref (aF 0))]) hx hb dX6_read_89 rfl hl (by decide) rfl (fun ls hl => ?_)
            refine lv_iload_n hx hb dX6_read_90 rfl (lv_at hl 0 rfl) ?_
            refine lv_if_eq (tgt := 97) hx hb dX6_read_91 (by decide) (fun c_17 => ?_) (fun c_17 => ?_)
            · rw [if_pos c_17] at hR
              refine lv_iinc (v := (x4_46 + 1)) (lv' := [(4, .int (x4_46 + 1)), (3, .int r13), (5, .int r10), (1, .int x1_46), (2, .int r6), (0, .ref (aF 0))]) hx hb dX6_read_97 hl (k := 3) rfl rfl (by decide) rfl (fun ls hl => ?_)
              refine lv_goto (tgt := 46) hx hb dX6_read_100 (by decide) ?_
              exact ih x1_46 r13 (x4_46 + 1) u14 u15 G_46 Z_46 T_46 _ _ hfu hR hP hD hS ls (lv_sub hl [3, 1, 0, 4, 5] rfl)
            · rw [if_neg c_17] at hR
              refine lv_iinc (v := (x1_46 + 1)) (lv' := [(1, .int (x1_46 + 1)), (3, .int r13), (5, .int r10), (4, .int x4_46), (2, .int r6), (0, .ref (aF 0))]) hx hb dX6_read_94 hl (k := 2) rfl rfl (by decide) rfl (fun ls hl => ?_)
              refine lv_iinc (v := (x4_46 + 1)) (lv' := [(4, .int (x4_46 + 1)), (1, .int (x1_46 + 1)), (3, .int r13), (5, .int r10), (2, .int r6), (0, .ref (aF 0))]) hx hb dX6_read_97 hl (k := 3) rfl rfl (by decide) rfl (fun ls hl => ?_)
              refine lv_goto (tgt := 46) hx hb dX6_read_100 (by decide) ?_
              exact ih (x1_46 + 1) r13 (x4_46 + 1) u14 u15 G_46 Z_46 T_46 _ _ hfu hR hP hD hS ls (lv_sub hl [1, 2, 0, 4, 5] rfl)
    refine LOOP46 (fun x1_46 S_46 Y_46 G_46 Z_46 T_46 => (bd (f3_makeEmpty T_46) (fun u18 => ((0 : Int32), x1_46, S_46, Y_46, G_46, Z_46, u18)))) (fun x1_46 S_46 Y_46 G_46 Z_46 T_46 H4 locs hR hP hD hS ls hl => ?_) (fuelN (0 : Int32) r6) (0 : Int32) (1 : Int32) (0 : Int32) S Y u4 u5 T _ _ (fuelE _ _) hR hP hD hS ls (lv_sub hl [3, 1, 0, 2, 4] rfl)
    try dsimp only at hR
    refine lv_aload_n hx hb dX6_read_103 rfl (lv_at hl 1 rfl) ?_
    refine va_get (D := (dC, dI)) (ci := 6) (v := .ref (aX 0)) (C := RX6) (T := TX6) (N := 7) hx hb hts hin6 hown hK hP 0 rfl rfl 6 (by decide) (hw_ hts 3 rfl) (fun _ h9 => h9) rfl dX6_read_104 ?_
    have hF := va_free (wc := wTx cI aX T_46) hD hS hA [84, 85] rfl
    refine va_callv (va_runV (As := []) (rest := []) ⟨hx, hb, hml, hown, hts⟩ (met_X3_makeEmpty l dC dI cI cZ cS aX T_46 H4.size) (cwV 0 hts gX6_read_X3_makeEmpty rfl rfl rfl (by decide +kernel) ⟨Nat.le_of_ble_eq_true rfl, Nat.le_of_ble_eq_true rfl⟩) (pV (wc := wTx cI aX T_46) (ci := 3) (q0 := 84) hK hP hD hN [84, 85] rfl (by decide) rfl rfl) rfl rfl hl.1 rfl (lv_room (Nat.le_of_ble_eq_true rfl)) dX6_read_107 ⟨Nat.zero_le _, Nat.zero_le _⟩) hS (fun q _ h => hF q h) hF (fun  u18 t H5 locs ht hvm hw hB hz1 hk1 hS => ?_)
    try dsimp only at hw hB
    rw [ht] at hB
    have hR := bd_n hw hR
    have hP := wrk2 (w2 := wFm aF aN aT aL aO aH aP aX ++ (wSt cI aN S_46 ++ (wLo cI aL Y_46 ++ (wOu aO aN aL ++ (wHi cS aH ah G_46 ++ (wZs cI ah Z_46 ++ (wTx cI aX u18))))))) (wr := wFm aF aN aT aL aO aH aP aX ++ (wSt cI aN S_46 ++ (wLo cI aL Y_46 ++ (wOu aO aN aL ++ (wHi cS aH ah G_46 ++ (wZs cI ah Z_46)))))) hP hD [84, 85] [0, 1, 2, 3, 4, 5, 6, 7, 8, 9, 10, 11, 12, 13, 14, 15, 16, 17, 18, 19, 20, 21, 22, 23, 24, 25, 26, 27, 28, 29, 30, 31, 32, 33, 34, 35, 36, 37, 38, 39, 40, 41, 42, 43, 44, 45, 46, 47, 48, 49, 50, 51, 52, 53, 54, 55, 56, 57, 58, 59, 60, 61, 62, 63, 64, 65, 66, 67, 68, 69, 70, 71, 72, 73, 74, 75, 76, 77, 78, 79, 80, 81, 82, 83] rfl rfl (by decide) hk1 hB [0, 1, 2, 3, 4, 5, 6, 7, 8, 9, 10, 11, 12, 13, 14, 15, 16, 17, 18, 19, 20, 21, 22, 23, 24, 25, 26, 27, 28, 29, 30, 31, 32, 33, 34, 35, 36, 37, 38, 39, 40, 41, 42, 43, 44, 45, 46, 47, 48, 49, 50, 51, 52, 53, 54, 55, 56, 57, 58, 59, 60, 61, 62, 63, 64, 65, 66, 67, 68, 69, 70, 71, 72, 73, 74, 75, 76, 77, 78, 79, 80, 81, 82, 83, 84, 85] rfl
    have hD := D_addr (w1 := wFm aF aN aT aL aO aH aP aX ++ (wSt cI aN S_46 ++ (wLo cI aL Y_46 ++ (wOu aO aN aL ++ (wHi cS aH ah G_46 ++ (wZs cI ah Z_46 ++ (wTx cI aX u18))))))) hD rfl
    refine lv_iload_n hx hb dX6_read_110 rfl (lv_at hl 0 rfl) ?_
    exact vx_ret (W.widen (k := 1) (n := 6) (Nat.zero_le _) (Nat.zero_le _) (W.iret (v := x1_46) hx hb hr (fun t ht hW => ⟨⟨x1_46, (S_46, Y_46, G_46, Z_46, u18), rfl, hR, P_at ht hP⟩, hS.F ht⟩) hS.2.2 dX6_read_111))
  · rw [if_pos c_3] at hR
    obtain ⟨sa, hsa⟩ := hXW.1 248 (by decide)
    exact vx_throwS (text := strT 248) (sa := sa) (A := A) (names := ["java/lang/RuntimeException", "java/lang/Exception"]) (cls := "java/lang/IllegalArgumentException") hx hb hfl hown (by decide) (by decide) (hw_ hts 1 rfl) (hw_ hts 2 rfl) hsa (thr_at2 hXW (fun w h => hts w (List.mem_cons_of_mem _ (List.mem_append_right _ h)))) (by decide +kernel) hU hNs hS (hl.1.trans hml.symm) dX6_read_10 dX6_read_13 dX6_read_14 dX6_read_16 dX6_read_19 (fun x hx => (htab x hx).elim) (Nat.lt_of_sub_pos (Nat.le_of_ble_eq_true rfl)) (Nat.le_of_ble_eq_true rfl) (Nat.le_of_ble_eq_true rfl) (Nat.le_of_ble_eq_true rfl) hlocks (fun t h1 h2 h3 => ⟨(S, Y, G, Z, T), trivial, ⟨(2 : Int32), rfl, by decide, hR, thr_P hP h3⟩, thr_F hS h2 h3⟩) hS.2.2 (Nat.le_of_ble_eq_true rfl) (Nat.le_of_ble_eq_true rfl)
abbrev rm_X6_whyNot : Room := { frames := 6, cells := 1, slots := 6, locals := 126 }
abbrev x_X6_whyNot (dC : Nat → ClassId) (dI : Nat → Nat → Nat) (cI cZ cS : ClassId) (aF aN aT aL aO aH : Nat → Nat) (ah : Nat → Nat → Nat) (aP aX : Nat → Nat)  (res : Int32 × Int32 × Pic × Pic) (A : Nat → Prop) : String → State → State → Prop := vx_X (fun (_ : Pic × Pic) => True) (fun E u t => ∃ c : Int32, exN c = E ∧ ¬ c = 0 ∧ (c, (0 : Int32), u) = res ∧ va_P (dC, dI) vwCl (wFm aF aN aT aL aO aH aP aX ++ (wSt cI aN u.1 ++ (wLo cI aL u.2 ++ (wOu aO aN aL)))) t.heap) A
abbrev q_X6_whyNot (dC : Nat → ClassId) (dI : Nat → Nat → Nat) (cI cZ cS : ClassId) (aF aN aT aL aO aH : Nat → Nat) (ah : Nat → Nat → Nat) (aP aX : Nat → Nat)  (res : Int32 × Int32 × Pic × Pic) (A : Nat → Prop) : Array Value → State → Outcome → State → Prop := va_Qi (fun (r : Int32) (u : Pic × Pic) => ((0 : Int32), r, u) = res) (fun u t => va_P (dC, dI) vwCl (wFm aF aN aT aL aO aH aP aX ++ (wSt cI aN u.1 ++ (wLo cI aL u.2 ++ (wOu aO aN aL)))) t.heap) A
set_option maxHeartbeats 4000000 in
set_option maxRecDepth 100000 in
theorem met_X6_whyNot (l : Launch) (hfl : l.stackTraces = false) (dC : Nat → ClassId) (dI : Nat → Nat → Nat) (cI cZ cS : ClassId) (aF aN aT aL aO aH : Nat → Nat) (ah : Nat → Nat → Nat) (aP aX : Nat → Nat) (S : Pic) (Y : Pic) (base sz : Nat) (p1 : Int32) (p2 : Int32) (p3 : Int32) : vx_Met l yX6_whyNot wsX6_whyNot rm_X6_whyNot (va_Pc [.ref (aF 0), .int p1, .int p2, .int p3] (pX (dC, dI) (tyS cI cZ cS) (wFm aF aN aT aL aO aH aP aX ++ (wSt cI aN S ++ (wLo cI aL Y ++ (wOu aO aN aL)))) base sz)) (q_X6_whyNot dC dI cI cZ cS aF aN aT aL aO aH ah aP aX (f6_whyNot S Y p1 p2 p3) (va_A (wFm aF aN aT aL aO aH aP aX ++ (wSt cI aN S ++ (wLo cI aL Y ++ (wOu aO aN aL)))) sz)) (x_X6_whyNot dC dI cI cZ cS aF aN aT aL aO aH ah aP aX (f6_whyNot S Y p1 p2 p3) (va_A (wFm aF aN aT aL aO aH aP aX ++ (wSt cI aN S ++ (wLo cI aL Y ++ (wOu aO aN aL)))) sz)) 1 6 (va_A (wFm aF aN aT aL aO aH aP aX ++ (wSt cI aN S ++ (wLo cI aL Y ++ (wOu aO aN aL)))) sz) := by
  refine vx_ofW (cc := cX6_whyNot) (maxL := 4) (ret := (some .int)) (by decide) rfl ?_
  intro p e s m args below meth c s₁ B hml htab hv
  obtain ⟨rfl, hsz, hP, hK, hD0, hN, hbs, hXW⟩ := hv
  have hx := B.exec
  have hb := B.bytes
  have hr := B.returns
  have hts := atoms_spec (ws := wsX6_whyNot) B.pre
  have hown : s.vm.findClass RX6 = some m.cls := findClass_of_methodNamed B.named
  have hlocks := B.notSynchronized
  subst hsz
  have hD := hD0.self (sz := s.heap.size)
  generalize hAe : va_A (wFm aF aN aT aL aO aH aP aX ++ (wSt cI aN S ++ (wLo cI aL Y ++ (wOu aO aN aL)))) s.heap.size = A at hD ⊢
  have hA : ∀ q : Nat, s.heap.size ≤ q → A q := fun q h => by rw [← hAe]; exact Or.inr h
  have hS : va_S A s.heap s.heap [] := va_S.rf
  have hAb : ∀ q, A q → base ≤ q := fun q h => by rw [← hAe] at h; exact base_of hD0 hbs q h
  have hU := hXW.2.1.narrow hAb
  have hNs := hXW.2.2.1.narrow hAb
  have hP : va_P (dC, dI) vwCl (wFm aF aN aT aL aO aH aP aX ++ (wSt cI aN S ++ (wLo cI aL Y ++ (wOu aO aN aL)))) s.heap := hP
  generalize hR : f6_whyNot S Y p1 p2 p3 = res
  rw [f6_whyNot] at hR
  have hin6 : ∀ w ∈ wsX60, w ∈ wsX6_whyNot := by decide +kernel
  have hl := lv_entry ([.ref (aF 0), .int p1, .int p2, .int p3]) (n := 4) (Nat.le_of_ble_eq_true rfl)
  rw [lg_entry_eq]
  generalize (lg_sl ([.ref (aF 0), .int p1, .int p2, .int p3]) ++ List.replicate (4 - (lg_sl ([.ref (aF 0), .int p1, .int p2, .int p3])).length) Slot.unset).toArray = ls at hl ⊢
  have hl : lv_has ls 4 [(0, .ref (aF 0)), (1, .int p1), (2, .int p2), (3, .int p3)] := hl
  refine lv_iload_n hx hb dX6_whyNot_0 rfl (lv_at hl 1 rfl) ?_
  refine va_calli (va_runS (As := [.int p1]) (rest := []) ⟨hx, hb, hml, hown, hts⟩ (met_X6_isDay l dC dI cI cZ cS s.heap.size p1) (va_cwS 1 hts gX6_whyNot_X6_isDay rfl rfl rfl (by decide +kernel) ⟨Nat.le_of_ble_eq_true rfl, Nat.le_of_ble_eq_true rfl⟩) (pS (wc := []) hK hP hD hN [] rfl (by decide)) rfl rfl hl.1 rfl (lv_room (Nat.le_of_ble_eq_true rfl)) dX6_whyNot_1 ⟨Nat.zero_le _, Nat.zero_le _⟩) hS (fun q _ h => a0_in hS hA q h) (a0_in hS hA) (fun r1 u t H1 locs ht hvm hw hB hz1 hk1 hS => ?_)
  obtain ⟨hw, nb2⟩ := hw
  subst hw
  have hP := rdk hP hk1
  refine lv_if_eq (tgt := 25) hx hb dX6_whyNot_4 (by decide) (fun c_3 => ?_) (fun c_3 => ?_)
  · rw [if_pos c_3] at hR
    obtain ⟨sa, hsa⟩ := hXW.1 315 (by decide)
    exact vx_throwSW (text := strT 315) (sa := sa) (A := A) (names := ["java/lang/RuntimeException", "java/lang/Exception"]) (cls := "java/lang/IndexOutOfBoundsException") hx hb hfl hown (by decide) (by decide) (hw_ hts 1 rfl) (hw_ hts 2 rfl) hsa (thr_at1 hXW (fun w h => hts w (List.mem_cons_of_mem _ (List.mem_append_right _ h)))) (by decide +kernel) hU hNs hS (hl.1.trans hml.symm) dX6_whyNot_25 dX6_whyNot_28 dX6_whyNot_29 dX6_whyNot_32 dX6_whyNot_35 (fun x hx => (htab x hx).elim) (Nat.lt_of_sub_pos (Nat.le_of_ble_eq_true rfl)) (Nat.le_of_ble_eq_true rfl) (Nat.le_of_ble_eq_true rfl) (Nat.le_of_ble_eq_true rfl) hlocks (fun t h1 h2 h3 => ⟨(S, Y), trivial, ⟨(1 : Int32), rfl, by decide, hR, thr_P hP h3⟩, thr_F hS h2 h3⟩) hS.2.2 (Nat.le_of_ble_eq_true rfl) (Nat.le_of_ble_eq_true rfl)
  · rw [if_neg c_3] at hR
    refine lv_iload_n hx hb dX6_whyNot_7 rfl (lv_at hl 2 rfl) ?_
    refine va_calli (va_runS (As := [.int p2]) (rest := []) ⟨hx, hb, hml, hown, hts⟩ (met_X6_isPart l dC dI cI cZ cS H1.size p2) (va_cwS 1 hts gX6_whyNot_X6_isPart rfl rfl rfl (by decide +kernel) ⟨Nat.le_of_ble_eq_true rfl, Nat.le_of_ble_eq_true rfl⟩) (pS (wc := []) hK hP hD hN [] rfl (by decide)) rfl rfl hl.1 rfl (lv_room (Nat.le_of_ble_eq_true rfl)) dX6_whyNot_8 ⟨Nat.zero_le _, Nat.zero_le _⟩) hS (fun q _ h => a0_in hS hA q h) (a0_in hS hA) (fun r4 u t H2 locs ht hvm hw hB hz1 hk1 hS => ?_)
    obtain ⟨hw, nb5⟩ := hw
    subst hw
    have hP := rdk hP hk1
    refine lv_if_eq (tgt := 25) hx hb dX6_whyNot_11 (by decide) (fun c_6 => ?_) (fun c_6 => ?_)
    · rw [if_pos c_6] at hR
      obtain ⟨sa, hsa⟩ := hXW.1 315 (by decide)
      exact vx_throwSW (text := strT 315) (sa := sa) (A := A) (names := ["java/lang/RuntimeException", "java/lang/Exception"]) (cls := "java/lang/IndexOutOfBoundsException") hx hb hfl hown (by decide) (by decide) (hw_ hts 1 rfl) (hw_ hts 2 rfl) hsa (thr_at1 hXW (fun w h => hts w (List.mem_cons_of_mem _ (List.mem_append_right _ h)))) (by decide +kernel) hU hNs hS (hl.1.trans hml.symm) dX6_whyNot_25 dX6_whyNot_28 dX6_whyNot_29 dX6_whyNot_32 dX6_whyNot_35 (fun x hx => (htab x hx).elim) (Nat.lt_of_sub_pos (Nat.le_of_ble_eq_true rfl)) (Nat.le_of_ble_eq_true rfl) (Nat.le_of_ble_eq_true rfl) (Nat.le_of_ble_eq_true rfl) hlocks (fun t h1 h2 h3 => ⟨(S, Y), trivial, ⟨(1 : Int32), rfl, by decide, hR, thr_P hP h3⟩, thr_F hS h2 h3⟩) hS.2.2 (Nat.le_of_ble_eq_true rfl) (Nat.le_of_ble_eq_true rfl)
    · rw [if_neg c_6] at hR
      refine lv_aload_n hx hb dX6_whyNot_14 rfl (lv_at hl 0 rfl) ?_
      refine va_get (D := (dC, dI)) (ci := 6) (v := .ref (aN 0)) (C := RX6) (T := TX6) (N := 7) hx hb hts hin6 hown hK hP 0 rfl rfl 0 (by decide) (hw_ hts 3 rfl) (fun _ h9 => h9) rfl dX6_whyNot_15 ?_
      refine lv_iload_n hx hb dX6_whyNot_18 rfl (lv_at hl 3 rfl) ?_
      refine va_calli (va_runV (As := [.int p3]) (rest := []) ⟨hx, hb, hml, hown, hts⟩ (met_X5_hasDish l dC dI cI cZ cS aN S H2.size p3) (cwV 1 hts gX6_whyNot_X5_hasDish rfl rfl rfl (by decide +kernel) ⟨Nat.le_of_ble_eq_true rfl, Nat.le_of_ble_eq_true rfl⟩) (pV (wc := wSt cI aN S) (ci := 5) (q0 := 1) hK hP hD hN [1, 2, 3, 4, 5, 6, 7, 8, 9, 10, 11] rfl (by decide) rfl rfl) rfl rfl hl.1 rfl (lv_room (Nat.le_of_ble_eq_true rfl)) dX6_whyNot_19 ⟨Nat.zero_le _, Nat.zero_le _⟩) hS (fun q _ h => a0_in hS hA q h) (a0_in hS hA) (fun r7 u t H3 locs ht hvm hw hB hz1 hk1 hS => ?_)
      obtain ⟨hw, nb8⟩ := hw
      subst hw
      have hP := rdk hP hk1
      refine lv_if_ne (tgt := 36) hx hb dX6_whyNot_22 (by decide) (fun c_9 => ?_) (fun c_9 => ?_)
      · rw [if_neg c_9] at hR
        refine lv_aload_n hx hb dX6_whyNot_36 rfl (lv_at hl 0 rfl) ?_
        refine va_get (D := (dC, dI)) (ci := 6) (v := .ref (aO 0)) (C := RX6) (T := TX6) (N := 7) hx hb hts hin6 hown hK hP 0 rfl rfl 3 (by decide) (hw_ hts 4 rfl) (fun _ h9 => h9) rfl dX6_whyNot_37 ?_
        refine lv_iload_n hx hb dX6_whyNot_40 rfl (lv_at hl 1 rfl) ?_
        refine lv_iload_n hx hb dX6_whyNot_41 rfl (lv_at hl 2 rfl) ?_
        refine lv_iload_n hx hb dX6_whyNot_42 rfl (lv_at hl 3 rfl) ?_
        have hF := va_free (wc := wOu aO aN aL ++ (wLo cI aL Y ++ (wSt cI aN S))) hD hS hA [15, 12, 13, 14, 1, 2, 3, 4, 5, 6, 7, 8, 9, 10, 11] rfl
        refine va_calli (va_runV (As := [.int p1, .int p2, .int p3]) (rest := []) ⟨hx, hb, hml, hown, hts⟩ (met_X2_reasonAgainst l dC dI cI cZ cS aO aL aN Y S H3.size p1 p2 p3) (cwV 3 hts gX6_whyNot_X2_reasonAgainst rfl rfl rfl (by decide +kernel) ⟨Nat.le_of_ble_eq_true rfl, Nat.le_of_ble_eq_true rfl⟩) (pV (wc := wOu aO aN aL ++ (wLo cI aL Y ++ (wSt cI aN S))) (ci := 2) (q0 := 15) hK hP hD hN [15, 12, 13, 14, 1, 2, 3, 4, 5, 6, 7, 8, 9, 10, 11] rfl (by decide) rfl rfl) rfl rfl hl.1 rfl (lv_room (Nat.le_of_ble_eq_true rfl)) dX6_whyNot_43 ⟨Nat.zero_le _, Nat.zero_le _⟩) hS (fun q _ h => hF q h) hF (fun r10 u t H4 locs ht hvm hw hB hz1 hk1 hS => ?_)
        obtain ⟨u11, u12⟩ := u
        try dsimp only at hw hB
        rw [ht] at hB
        have hR := bd3_n hw hR
        have hP := wrk2 (w2 := wFm aF aN aT aL aO aH aP aX ++ (wSt cI aN u12 ++ (wLo cI aL u11 ++ (wOu aO aN aL)))) (wr := wFm aF aN aT aL aO aH aP aX) hP hD [15, 12, 13, 14, 1, 2, 3, 4, 5, 6, 7, 8, 9, 10, 11] [0] rfl rfl (by decide) hk1 hB [0, 5, 6, 7, 8, 9, 10, 11, 12, 13, 14, 15, 2, 3, 4, 1] rfl
        have hD := D_addr (w1 := wFm aF aN aT aL aO aH aP aX ++ (wSt cI aN u12 ++ (wLo cI aL u11 ++ (wOu aO aN aL)))) hD rfl
        exact vx_ret (W.widen (k := 1) (n := 6) (Nat.zero_le _) (Nat.zero_le _) (W.iret (v := r10) hx hb hr (fun t ht hW => ⟨⟨r10, (u12, u11), rfl, hR, P_at ht hP⟩, hS.F ht⟩) hS.2.2 dX6_whyNot_46))
      · rw [if_pos c_9] at hR
        obtain ⟨sa, hsa⟩ := hXW.1 315 (by decide)
        exact vx_throwSW (text := strT 315) (sa := sa) (A := A) (names := ["java/lang/RuntimeException", "java/lang/Exception"]) (cls := "java/lang/IndexOutOfBoundsException") hx hb hfl hown (by decide) (by decide) (hw_ hts 1 rfl) (hw_ hts 2 rfl) hsa (thr_at1 hXW (fun w h => hts w (List.mem_cons_of_mem _ (List.mem_append_right _ h)))) (by decide +kernel) hU hNs hS (hl.1.trans hml.symm) dX6_whyNot_25 dX6_whyNot_28 dX6_whyNot_29 dX6_whyNot_32 dX6_whyNot_35 (fun x hx => (htab x hx).elim) (Nat.lt_of_sub_pos (Nat.le_of_ble_eq_true rfl)) (Nat.le_of_ble_eq_true rfl) (Nat.le_of_ble_eq_true rfl) (Nat.le_of_ble_eq_true rfl) hlocks (fun t h1 h2 h3 => ⟨(S, Y), trivial, ⟨(1 : Int32), rfl, by decide, hR, thr_P hP h3⟩, thr_F hS h2 h3⟩) hS.2.2 (Nat.le_of_ble_eq_true rfl) (Nat.le_of_ble_eq_true rfl)
abbrev rm_X6_best : Room := { frames := 6, cells := 1, slots := 6, locals := 150 }
abbrev x_X6_best (dC : Nat → ClassId) (dI : Nat → Nat → Nat) (cI cZ cS : ClassId) (aF aN aT aL aO aH : Nat → Nat) (ah : Nat → Nat → Nat) (aP aX : Nat → Nat)  (res : Int32 × Int32 × Pic × Pic) (A : Nat → Prop) : String → State → State → Prop := vx_X (fun (_ : Pic × Pic) => True) (fun E u t => ∃ c : Int32, exN c = E ∧ ¬ c = 0 ∧ (c, (0 : Int32), u) = res ∧ va_P (dC, dI) vwCl (wFm aF aN aT aL aO aH aP aX ++ (wSt cI aN u.1 ++ (wLo cI aL u.2 ++ (wOu aO aN aL)))) t.heap) A
abbrev q_X6_best (dC : Nat → ClassId) (dI : Nat → Nat → Nat) (cI cZ cS : ClassId) (aF aN aT aL aO aH : Nat → Nat) (ah : Nat → Nat → Nat) (aP aX : Nat → Nat)  (res : Int32 × Int32 × Pic × Pic) (A : Nat → Prop) : Array Value → State → Outcome → State → Prop := va_Qi (fun (r : Int32) (u : Pic × Pic) => ((0 : Int32), r, u) = res) (fun u t => va_P (dC, dI) vwCl (wFm aF aN aT aL aO aH aP aX ++ (wSt cI aN u.1 ++ (wLo cI aL u.2 ++ (wOu aO aN aL)))) t.heap) A
set_option maxHeartbeats 4000000 in
set_option maxRecDepth 100000 in
theorem met_X6_best (l : Launch) (hfl : l.stackTraces = false) (dC : Nat → ClassId) (dI : Nat → Nat → Nat) (cI cZ cS : ClassId) (aF aN aT aL aO aH : Nat → Nat) (ah : Nat → Nat → Nat) (aP aX : Nat → Nat) (S : Pic) (Y : Pic) (base sz : Nat) (p1 : Int32) (p2 : Int32) (res : Int32 × Int32 × Pic × Pic) (hR : f6_best S Y p1 p2 = some res) : vx_Met l yX6_best wsX6_best rm_X6_best (va_Pc [.ref (aF 0), .int p1, .int p2] (pX (dC, dI) (tyS cI cZ cS) (wFm aF aN aT aL aO aH aP aX ++ (wSt cI aN S ++ (wLo cI aL Y ++ (wOu aO aN aL)))) base sz)) (q_X6_best dC dI cI cZ cS aF aN aT aL aO aH ah aP aX res (va_A (wFm aF aN aT aL aO aH aP aX ++ (wSt cI aN S ++ (wLo cI aL Y ++ (wOu aO aN aL)))) sz)) (x_X6_best dC dI cI cZ cS aF aN aT aL aO aH ah aP aX res (va_A (wFm aF aN aT aL aO aH aP aX ++ (wSt cI aN S ++ (wLo cI aL Y ++ (wOu aO aN aL)))) sz)) 1 6 (va_A (wFm aF aN aT aL aO aH aP aX ++ (wSt cI aN S ++ (wLo cI aL Y ++ (wOu aO aN aL)))) sz) := by
  refine vx_ofW (cc := cX6_best) (maxL := 3) (ret := (some .int)) (by decide) rfl ?_
  intro p e s m args below meth c s₁ B hml htab hv
  obtain ⟨rfl, hsz, hP, hK, hD0, hN, hbs, hXW⟩ := hv
  have hx := B.exec
  have hb := B.bytes
  have hr := B.returns
  have hts := atoms_spec (ws := wsX6_best) B.pre
  have hown : s.vm.findClass RX6 = some m.cls := findClass_of_methodNamed B.named
  have hlocks := B.notSynchronized
  subst hsz
  have hD := hD0.self (sz := s.heap.size)
  generalize hAe : va_A (wFm aF aN aT aL aO aH aP aX ++ (wSt cI aN S ++ (wLo cI aL Y ++ (wOu aO aN aL)))) s.heap.size = A at hD ⊢
  have hA : ∀ q : Nat, s.heap.size ≤ q → A q := fun q h => by rw [← hAe]; exact Or.inr h
  have hS : va_S A s.heap s.heap [] := va_S.rf
  have hAb : ∀ q, A q → base ≤ q := fun q h => by rw [← hAe] at h; exact base_of hD0 hbs q h
  have hU := hXW.2.1.narrow hAb
  have hNs := hXW.2.2.1.narrow hAb
  have hP : va_P (dC, dI) vwCl (wFm aF aN aT aL aO aH aP aX ++ (wSt cI aN S ++ (wLo cI aL Y ++ (wOu aO aN aL)))) s.heap := hP
  rw [f6_best] at hR
  have hin6 : ∀ w ∈ wsX60, w ∈ wsX6_best := by decide +kernel
  have hl := lv_entry ([.ref (aF 0), .int p1, .int p2]) (n := 3) (Nat.le_of_ble_eq_true rfl)
  rw [lg_entry_eq]
  generalize (lg_sl ([.ref (aF 0), .int p1, .int p2]) ++ List.replicate (3 - (lg_sl ([.ref (aF 0), .int p1, .int p2])).length) Slot.unset).toArray = ls at hl ⊢
  have hl : lv_has ls 3 [(0, .ref (aF 0)), (1, .int p1), (2, .int p2)] := hl
  refine lv_iload_n hx hb dX6_best_0 rfl (lv_at hl 1 rfl) ?_
  refine va_calli (va_runS (As := [.int p1]) (rest := []) ⟨hx, hb, hml, hown, hts⟩ (met_X6_isDay l dC dI cI cZ cS s.heap.size p1) (va_cwS 1 hts gX6_best_X6_isDay rfl rfl rfl (by decide +kernel) ⟨Nat.le_of_ble_eq_true rfl, Nat.le_of_ble_eq_true rfl⟩) (pS (wc := []) hK hP hD hN [] rfl (by decide)) rfl rfl hl.1 rfl (lv_room (Nat.le_of_ble_eq_true rfl)) dX6_best_1 ⟨Nat.zero_le _, Nat.zero_le _⟩) hS (fun q _ h => a0_in hS hA q h) (a0_in hS hA) (fun r1 u t H1 locs ht hvm hw hB hz1 hk1 hS => ?_)
  obtain ⟨hw, nb2⟩ := hw
  subst hw
  have hP := rdk hP hk1
  refine lv_if_eq (tgt := 14) hx hb dX6_best_4 (by decide) (fun c_3 => ?_) (fun c_3 => ?_)
  · rw [if_pos c_3] at hR
    obtain ⟨sa, hsa⟩ := hXW.1 198 (by decide)
    exact vx_throwS (text := strT 198) (sa := sa) (A := A) (names := ["java/lang/RuntimeException", "java/lang/Exception"]) (cls := "java/lang/IndexOutOfBoundsException") hx hb hfl hown (by decide) (by decide) (hw_ hts 1 rfl) (hw_ hts 2 rfl) hsa (thr_at1 hXW (fun w h => hts w (List.mem_cons_of_mem _ (List.mem_append_right _ h)))) (by decide +kernel) hU hNs hS (hl.1.trans hml.symm) dX6_best_14 dX6_best_17 dX6_best_18 dX6_best_20 dX6_best_23 (fun x hx => (htab x hx).elim) (Nat.lt_of_sub_pos (Nat.le_of_ble_eq_true rfl)) (Nat.le_of_ble_eq_true rfl) (Nat.le_of_ble_eq_true rfl) (Nat.le_of_ble_eq_true rfl) hlocks (fun t h1 h2 h3 => ⟨(S, Y), trivial, ⟨(1 : Int32), rfl, by decide, Option.some.inj hR, thr_P hP h3⟩, thr_F hS h2 h3⟩) hS.2.2 (Nat.le_of_ble_eq_true rfl) (Nat.le_of_ble_eq_true rfl)
  · rw [if_neg c_3] at hR
    refine lv_iload_n hx hb dX6_best_7 rfl (lv_at hl 2 rfl) ?_
    refine va_calli (va_runS (As := [.int p2]) (rest := []) ⟨hx, hb, hml, hown, hts⟩ (met_X6_isPart l dC dI cI cZ cS H1.size p2) (va_cwS 1 hts gX6_best_X6_isPart rfl rfl rfl (by decide +kernel) ⟨Nat.le_of_ble_eq_true rfl, Nat.le_of_ble_eq_true rfl⟩) (pS (wc := []) hK hP hD hN [] rfl (by decide)) rfl rfl hl.1 rfl (lv_room (Nat.le_of_ble_eq_true rfl)) dX6_best_8 ⟨Nat.zero_le _, Nat.zero_le _⟩) hS (fun q _ h => a0_in hS hA q h) (a0_in hS hA) (fun r4 u t H2 locs ht hvm hw hB hz1 hk1 hS => ?_)
    obtain ⟨hw, nb5⟩ := hw
    subst hw
    have hP := rdk hP hk1
    refine lv_if_ne (tgt := 24) hx hb dX6_best_11 (by decide) (fun c_6 => ?_) (fun c_6 => ?_)
    · rw [if_neg c_6] at hR
      refine lv_aload_n hx hb dX6_best_24 rfl (lv_at hl 0 rfl) ?_
      refine va_get (D := (dC, dI)) (ci := 6) (v := .ref (aO 0)) (C := RX6) (T := TX6) (N := 7) hx hb hts hin6 hown hK hP 0 rfl rfl 3 (by decide) (hw_ hts 3 rfl) (fun _ h9 => h9) rfl dX6_best_25 ?_
      refine lv_iload_n hx hb dX6_best_28 rfl (lv_at hl 1 rfl) ?_
      refine lv_iload_n hx hb dX6_best_29 rfl (lv_at hl 2 rfl) ?_
      obtain ⟨r7, u8, u9, hc10, hR⟩ := ob3_e hR
      have hF := va_free (wc := wOu aO aN aL ++ (wLo cI aL Y ++ (wSt cI aN S))) hD hS hA [15, 12, 13, 14, 1, 2, 3, 4, 5, 6, 7, 8, 9, 10, 11] rfl
      refine va_calli (va_runV (As := [.int p1, .int p2]) (rest := []) ⟨hx, hb, hml, hown, hts⟩ (met_X2_bestDish l dC dI cI cZ cS aO aL aN Y S H2.size p1 p2 (r7, u8, u9) hc10) (cwV 2 hts gX6_best_X2_bestDish rfl rfl rfl (by decide +kernel) ⟨Nat.le_of_ble_eq_true rfl, Nat.le_of_ble_eq_true rfl⟩) (pV (wc := wOu aO aN aL ++ (wLo cI aL Y ++ (wSt cI aN S))) (ci := 2) (q0 := 15) hK hP hD hN [15, 12, 13, 14, 1, 2, 3, 4, 5, 6, 7, 8, 9, 10, 11] rfl (by decide) rfl rfl) rfl rfl hl.1 rfl (lv_room (Nat.le_of_ble_eq_true rfl)) dX6_best_30 ⟨Nat.zero_le _, Nat.zero_le _⟩) hS (fun q _ h => hF q h) hF (fun r7 u t H3 locs ht hvm hw hB hz1 hk1 hS => ?_)
      obtain ⟨u8, u9⟩ := u
      try dsimp only at hw hB
      rw [ht] at hB
      cases hw
      have hP := wrk2 (w2 := wFm aF aN aT aL aO aH aP aX ++ (wSt cI aN u9 ++ (wLo cI aL u8 ++ (wOu aO aN aL)))) (wr := wFm aF aN aT aL aO aH aP aX) hP hD [15, 12, 13, 14, 1, 2, 3, 4, 5, 6, 7, 8, 9, 10, 11] [0] rfl rfl (by decide) hk1 hB [0, 5, 6, 7, 8, 9, 10, 11, 12, 13, 14, 15, 2, 3, 4, 1] rfl
      have hD := D_addr (w1 := wFm aF aN aT aL aO aH aP aX ++ (wSt cI aN u9 ++ (wLo cI aL u8 ++ (wOu aO aN aL)))) hD rfl
      exact vx_ret (W.widen (k := 1) (n := 6) (Nat.zero_le _) (Nat.zero_le _) (W.iret (v := r7) hx hb hr (fun t ht hW => ⟨⟨r7, (u9, u8), rfl, Option.some.inj hR, P_at ht hP⟩, hS.F ht⟩) hS.2.2 dX6_best_33))
    · rw [if_pos c_6] at hR
      obtain ⟨sa, hsa⟩ := hXW.1 198 (by decide)
      exact vx_throwS (text := strT 198) (sa := sa) (A := A) (names := ["java/lang/RuntimeException", "java/lang/Exception"]) (cls := "java/lang/IndexOutOfBoundsException") hx hb hfl hown (by decide) (by decide) (hw_ hts 1 rfl) (hw_ hts 2 rfl) hsa (thr_at1 hXW (fun w h => hts w (List.mem_cons_of_mem _ (List.mem_append_right _ h)))) (by decide +kernel) hU hNs hS (hl.1.trans hml.symm) dX6_best_14 dX6_best_17 dX6_best_18 dX6_best_20 dX6_best_23 (fun x hx => (htab x hx).elim) (Nat.lt_of_sub_pos (Nat.le_of_ble_eq_true rfl)) (Nat.le_of_ble_eq_true rfl) (Nat.le_of_ble_eq_true rfl) (Nat.le_of_ble_eq_true rfl) hlocks (fun t h1 h2 h3 => ⟨(S, Y), trivial, ⟨(1 : Int32), rfl, by decide, Option.some.inj hR, thr_P hP h3⟩, thr_F hS h2 h3⟩) hS.2.2 (Nat.le_of_ble_eq_true rfl) (Nat.le_of_ble_eq_true rfl)
abbrev rm_X6_gain : Room := { frames := 6, cells := 1, slots := 6, locals := 126 }
abbrev x_X6_gain (dC : Nat → ClassId) (dI : Nat → Nat → Nat) (cI cZ cS : ClassId) (aF aN aT aL aO aH : Nat → Nat) (ah : Nat → Nat → Nat) (aP aX : Nat → Nat)  (res : Int32 × Int32 × Pic × Pic) (A : Nat → Prop) : String → State → State → Prop := vx_X (fun (_ : Pic × Pic) => True) (fun E u t => ∃ c : Int32, exN c = E ∧ ¬ c = 0 ∧ (c, (0 : Int32), u) = res ∧ va_P (dC, dI) vwCl (wFm aF aN aT aL aO aH aP aX ++ (wSt cI aN u.1 ++ (wLo cI aL u.2 ++ (wOu aO aN aL)))) t.heap) A
abbrev q_X6_gain (dC : Nat → ClassId) (dI : Nat → Nat → Nat) (cI cZ cS : ClassId) (aF aN aT aL aO aH : Nat → Nat) (ah : Nat → Nat → Nat) (aP aX : Nat → Nat)  (res : Int32 × Int32 × Pic × Pic) (A : Nat → Prop) : Array Value → State → Outcome → State → Prop := va_Qi (fun (r : Int32) (u : Pic × Pic) => ((0 : Int32), r, u) = res) (fun u t => va_P (dC, dI) vwCl (wFm aF aN aT aL aO aH aP aX ++ (wSt cI aN u.1 ++ (wLo cI aL u.2 ++ (wOu aO aN aL)))) t.heap) A
set_option maxHeartbeats 4000000 in
set_option maxRecDepth 100000 in
theorem met_X6_gain (l : Launch) (hfl : l.stackTraces = false) (dC : Nat → ClassId) (dI : Nat → Nat → Nat) (cI cZ cS : ClassId) (aF aN aT aL aO aH : Nat → Nat) (ah : Nat → Nat → Nat) (aP aX : Nat → Nat) (S : Pic) (Y : Pic) (base sz : Nat) (p1 : Int32) (p2 : Int32) : vx_Met l yX6_gain wsX6_gain rm_X6_gain (va_Pc [.ref (aF 0), .int p1, .int p2] (pX (dC, dI) (tyS cI cZ cS) (wFm aF aN aT aL aO aH aP aX ++ (wSt cI aN S ++ (wLo cI aL Y ++ (wOu aO aN aL)))) base sz)) (q_X6_gain dC dI cI cZ cS aF aN aT aL aO aH ah aP aX (f6_gain S Y p1 p2) (va_A (wFm aF aN aT aL aO aH aP aX ++ (wSt cI aN S ++ (wLo cI aL Y ++ (wOu aO aN aL)))) sz)) (x_X6_gain dC dI cI cZ cS aF aN aT aL aO aH ah aP aX (f6_gain S Y p1 p2) (va_A (wFm aF aN aT aL aO aH aP aX ++ (wSt cI aN S ++ (wLo cI aL Y ++ (wOu aO aN aL)))) sz)) 1 6 (va_A (wFm aF aN aT aL aO aH aP aX ++ (wSt cI aN S ++ (wLo cI aL Y ++ (wOu aO aN aL)))) sz) := by
  refine vx_ofW (cc := cX6_gain) (maxL := 3) (ret := (some .int)) (by decide) rfl ?_
  intro p e s m args below meth c s₁ B hml htab hv
  obtain ⟨rfl, hsz, hP, hK, hD0, hN, hbs, hXW⟩ := hv
  have hx := B.exec
  have hb := B.bytes
  have hr := B.returns
  have hts := atoms_spec (ws := wsX6_gain) B.pre
  have hown : s.vm.findClass RX6 = some m.cls := findClass_of_methodNamed B.named
  have hlocks := B.notSynchronized
  subst hsz
  have hD := hD0.self (sz := s.heap.size)
  generalize hAe : va_A (wFm aF aN aT aL aO aH aP aX ++ (wSt cI aN S ++ (wLo cI aL Y ++ (wOu aO aN aL)))) s.heap.size = A at hD ⊢
  have hA : ∀ q : Nat, s.heap.size ≤ q → A q := fun q h => by rw [← hAe]; exact Or.inr h
  have hS : va_S A s.heap s.heap [] := va_S.rf
  have hAb : ∀ q, A q → base ≤ q := fun q h => by rw [← hAe] at h; exact base_of hD0 hbs q h
  have hU := hXW.2.1.narrow hAb
  have hNs := hXW.2.2.1.narrow hAb
  have hP : va_P (dC, dI) vwCl (wFm aF aN aT aL aO aH aP aX ++ (wSt cI aN S ++ (wLo cI aL Y ++ (wOu aO aN aL)))) s.heap := hP
  generalize hR : f6_gain S Y p1 p2 = res
  rw [f6_gain] at hR
  have hin6 : ∀ w ∈ wsX60, w ∈ wsX6_gain := by decide +kernel
  have hin5 : ∀ w ∈ wsX50, w ∈ wsX6_gain := by decide +kernel
  have hl := lv_entry ([.ref (aF 0), .int p1, .int p2]) (n := 3) (Nat.le_of_ble_eq_true rfl)
  rw [lg_entry_eq]
  generalize (lg_sl ([.ref (aF 0), .int p1, .int p2]) ++ List.replicate (3 - (lg_sl ([.ref (aF 0), .int p1, .int p2])).length) Slot.unset).toArray = ls at hl ⊢
  have hl : lv_has ls 3 [(0, .ref (aF 0)), (1, .int p1), (2, .int p2)] := hl
  refine lv_iload_n hx hb dX6_gain_0 rfl (lv_at hl 1 rfl) ?_
  refine va_calli (va_runS (As := [.int p1]) (rest := []) ⟨hx, hb, hml, hown, hts⟩ (met_X6_isDay l dC dI cI cZ cS s.heap.size p1) (va_cwS 1 hts gX6_gain_X6_isDay rfl rfl rfl (by decide +kernel) ⟨Nat.le_of_ble_eq_true rfl, Nat.le_of_ble_eq_true rfl⟩) (pS (wc := []) hK hP hD hN [] rfl (by decide)) rfl rfl hl.1 rfl (lv_room (Nat.le_of_ble_eq_true rfl)) dX6_gain_1 ⟨Nat.zero_le _, Nat.zero_le _⟩) hS (fun q _ h => a0_in hS hA q h) (a0_in hS hA) (fun r1 u t H1 locs ht hvm hw hB hz1 hk1 hS => ?_)
  obtain ⟨hw, nb2⟩ := hw
  subst hw
  have hP := rdk hP hk1
  refine lv_if_eq (tgt := 18) hx hb dX6_gain_4 (by decide) (fun c_3 => ?_) (fun c_3 => ?_)
  · rw [if_pos c_3] at hR
    obtain ⟨sa, hsa⟩ := hXW.1 174 (by decide)
    exact vx_throwS (text := strT 174) (sa := sa) (A := A) (names := ["java/lang/RuntimeException", "java/lang/Exception"]) (cls := "java/lang/IndexOutOfBoundsException") hx hb hfl hown (by decide) (by decide) (hw_ hts 1 rfl) (hw_ hts 2 rfl) hsa (thr_at1 hXW (fun w h => hts w (List.mem_cons_of_mem _ (List.mem_append_right _ h)))) (by decide +kernel) hU hNs hS (hl.1.trans hml.symm) dX6_gain_18 dX6_gain_21 dX6_gain_22 dX6_gain_24 dX6_gain_27 (fun x hx => (htab x hx).elim) (Nat.lt_of_sub_pos (Nat.le_of_ble_eq_true rfl)) (Nat.le_of_ble_eq_true rfl) (Nat.le_of_ble_eq_true rfl) (Nat.le_of_ble_eq_true rfl) hlocks (fun t h1 h2 h3 => ⟨(S, Y), trivial, ⟨(1 : Int32), rfl, by decide, hR, thr_P hP h3⟩, thr_F hS h2 h3⟩) hS.2.2 (Nat.le_of_ble_eq_true rfl) (Nat.le_of_ble_eq_true rfl)
  · rw [if_neg c_3] at hR
    refine lv_aload_n hx hb dX6_gain_7 rfl (lv_at hl 0 rfl) ?_
    refine va_get (D := (dC, dI)) (ci := 6) (v := .ref (aN 0)) (C := RX6) (T := TX6) (N := 7) hx hb hts hin6 hown hK hP 0 rfl rfl 0 (by decide) (hw_ hts 3 rfl) (fun _ h9 => h9) rfl dX6_gain_8 ?_
    refine lv_iload_n hx hb dX6_gain_11 rfl (lv_at hl 2 rfl) ?_
    refine va_calli (va_runV (As := [.int p2]) (rest := []) ⟨hx, hb, hml, hown, hts⟩ (met_X5_hasDish l dC dI cI cZ cS aN S H1.size p2) (cwV 1 hts gX6_gain_X5_hasDish rfl rfl rfl (by decide +kernel) ⟨Nat.le_of_ble_eq_true rfl, Nat.le_of_ble_eq_true rfl⟩) (pV (wc := wSt cI aN S) (ci := 5) (q0 := 1) hK hP hD hN [1, 2, 3, 4, 5, 6, 7, 8, 9, 10, 11] rfl (by decide) rfl rfl) rfl rfl hl.1 rfl (lv_room (Nat.le_of_ble_eq_true rfl)) dX6_gain_12 ⟨Nat.zero_le _, Nat.zero_le _⟩) hS (fun q _ h => a0_in hS hA q h) (a0_in hS hA) (fun r4 u t H2 locs ht hvm hw hB hz1 hk1 hS => ?_)
    obtain ⟨hw, nb5⟩ := hw
    subst hw
    have hP := rdk hP hk1
    refine lv_if_ne (tgt := 28) hx hb dX6_gain_15 (by decide) (fun c_6 => ?_) (fun c_6 => ?_)
    · rw [if_neg c_6] at hR
      refine lv_aload_n hx hb dX6_gain_28 rfl (lv_at hl 0 rfl) ?_
      refine va_get (D := (dC, dI)) (ci := 6) (v := .ref (aO 0)) (C := RX6) (T := TX6) (N := 7) hx hb hts hin6 hown hK hP 0 rfl rfl 3 (by decide) (hw_ hts 4 rfl) (fun _ h9 => h9) rfl dX6_gain_29 ?_
      refine lv_iload_n hx hb dX6_gain_32 rfl (lv_at hl 1 rfl) ?_
      refine lv_aload_n hx hb dX6_gain_33 rfl (lv_at hl 0 rfl) ?_
      refine va_get (D := (dC, dI)) (ci := 6) (v := .ref (aN 0)) (C := RX6) (T := TX6) (N := 7) hx hb hts hin6 hown hK hP 0 rfl rfl 0 (by decide) (hw_ hts 3 rfl) (fun _ h9 => h9) rfl dX6_gain_34 ?_
      refine va_get (D := (dC, dI)) (ci := 5) (v := .ref (aN 1)) (C := RX5) (T := TX5) (N := 12) hx hb hts hin5 hown hK hP 1 rfl rfl 1 (by decide) (hw_ hts 5 rfl) (fun _ h9 => h9) rfl dX6_gain_37 ?_
      refine lv_iload_n hx hb dX6_gain_40 rfl (lv_at hl 2 rfl) ?_
      refine va_calli (va_runS (As := [.ref (aN 1), .int p2]) (rest := [.int p1, .ref (aO 0)]) ⟨hx, hb, hml, hown, hts⟩ (met_X6_at l dC dI cI cZ cS (aN 1) 12 (by decide) (S 1) H2.size p2) (va_cwS 2 hts gX6_gain_X6_at rfl rfl rfl (by decide +kernel) ⟨Nat.le_of_ble_eq_true rfl, Nat.le_of_ble_eq_true rfl⟩) (pS (wc := [((aN 1), .inl (cI, 12, .inl (S 1)))]) hK hP hD hN [2] rfl (by decide)) rfl rfl hl.1 rfl (lv_room (Nat.le_of_ble_eq_true rfl)) dX6_gain_41 ⟨Nat.zero_le _, Nat.zero_le _⟩) hS (fun q _ h => a0_in hS hA q h) (a0_in hS hA) (fun r7 u t H3 locs ht hvm hw hB hz1 hk1 hS => ?_)
      subst hw
      have hP := rdk hP hk1
      refine lv_iload_n hx hb dX6_gain_44 rfl (lv_at hl 2 rfl) ?_
      have hF := va_free (wc := wOu aO aN aL ++ (wLo cI aL Y ++ (wSt cI aN S))) hD hS hA [15, 12, 13, 14, 1, 2, 3, 4, 5, 6, 7, 8, 9, 10, 11] rfl
      refine va_calli (va_runV (As := [.int p1, .int (f6_at 12 (S 1) p2), .int p2]) (rest := []) ⟨hx, hb, hml, hown, hts⟩ (met_X2_reasonAgainst l dC dI cI cZ cS aO aL aN Y S H3.size p1 (f6_at 12 (S 1) p2) p2) (cwV 3 hts gX6_gain_X2_reasonAgainst rfl rfl rfl (by decide +kernel) ⟨Nat.le_of_ble_eq_true rfl, Nat.le_of_ble_eq_true rfl⟩) (pV (wc := wOu aO aN aL ++ (wLo cI aL Y ++ (wSt cI aN S))) (ci := 2) (q0 := 15) hK hP hD hN [15, 12, 13, 14, 1, 2, 3, 4, 5, 6, 7, 8, 9, 10, 11] rfl (by decide) rfl rfl) rfl rfl hl.1 rfl (lv_room (Nat.le_of_ble_eq_true rfl)) dX6_gain_45 ⟨Nat.zero_le _, Nat.zero_le _⟩) hS (fun q _ h => hF q h) hF (fun r8 u t H4 locs ht hvm hw hB hz1 hk1 hS => ?_)
      obtain ⟨u9, u10⟩ := u
      try dsimp only at hw hB
      rw [ht] at hB
      have hR := bd3_n hw hR
      have hP := wrk2 (w2 := wFm aF aN aT aL aO aH aP aX ++ (wSt cI aN u10 ++ (wLo cI aL u9 ++ (wOu aO aN aL)))) (wr := wFm aF aN aT aL aO aH aP aX) hP hD [15, 12, 13, 14, 1, 2, 3, 4, 5, 6, 7, 8, 9, 10, 11] [0] rfl rfl (by decide) hk1 hB [0, 5, 6, 7, 8, 9, 10, 11, 12, 13, 14, 15, 2, 3, 4, 1] rfl
      have hD := D_addr (w1 := wFm aF aN aT aL aO aH aP aX ++ (wSt cI aN u10 ++ (wLo cI aL u9 ++ (wOu aO aN aL)))) hD rfl
      refine lv_if_eq (tgt := 53) hx hb dX6_gain_48 (by decide) (fun c_11 => ?_) (fun c_11 => ?_)
      · rw [if_pos c_11] at hR
        refine lv_aload_n hx hb dX6_gain_53 rfl (lv_at hl 0 rfl) ?_
        refine va_get (D := (dC, dI)) (ci := 6) (v := .ref (aO 0)) (C := RX6) (T := TX6) (N := 7) hx hb hts hin6 hown hK hP 0 rfl rfl 3 (by decide) (hw_ hts 4 rfl) (fun _ h9 => h9) rfl dX6_gain_54 ?_
        refine lv_iload_n hx hb dX6_gain_57 rfl (lv_at hl 1 rfl) ?_
        refine lv_iload_n hx hb dX6_gain_58 rfl (lv_at hl 2 rfl) ?_
        refine va_calli (va_runV (As := [.int p1, .int p2]) (rest := []) ⟨hx, hb, hml, hown, hts⟩ (met_X2_growth l dC dI cI cZ cS aO aL aN u9 u10 H4.size p1 p2) (cwV 2 hts gX6_gain_X2_growth rfl rfl rfl (by decide +kernel) ⟨Nat.le_of_ble_eq_true rfl, Nat.le_of_ble_eq_true rfl⟩) (pV (wc := wOu aO aN aL ++ (wLo cI aL u9 ++ (wSt cI aN u10))) (ci := 2) (q0 := 15) hK hP hD hN [15, 12, 13, 14, 1, 2, 3, 4, 5, 6, 7, 8, 9, 10, 11] rfl (by decide) rfl rfl) rfl rfl hl.1 rfl (lv_room (Nat.le_of_ble_eq_true rfl)) dX6_gain_59 ⟨Nat.zero_le _, Nat.zero_le _⟩) hS (fun q _ h => a0_in hS hA q h) (a0_in hS hA) (fun r12 u t H5 locs ht hvm hw hB hz1 hk1 hS => ?_)
        have hR := bd_n hw hR
        have hP := rdk hP hk1
        exact vx_ret (W.widen (k := 1) (n := 6) (Nat.zero_le _) (Nat.zero_le _) (W.iret (v := r12) hx hb hr (fun t ht hW => ⟨⟨r12, (u10, u9), rfl, hR, P_at ht hP⟩, hS.F ht⟩) hS.2.2 dX6_gain_62))
      · rw [if_neg c_11] at hR
        refine lv_iconst (v := (0 : Int32)) hx hb dX6_gain_51 (by decide) ?_
        exact vx_ret (W.widen (k := 1) (n := 6) (Nat.zero_le _) (Nat.zero_le _) (W.iret (v := (0 : Int32)) hx hb hr (fun t ht hW => ⟨⟨(0 : Int32), (u10, u9), rfl, hR, P_at ht hP⟩, hS.F ht⟩) hS.2.2 dX6_gain_52))
    · rw [if_pos c_6] at hR
      obtain ⟨sa, hsa⟩ := hXW.1 174 (by decide)
      exact vx_throwS (text := strT 174) (sa := sa) (A := A) (names := ["java/lang/RuntimeException", "java/lang/Exception"]) (cls := "java/lang/IndexOutOfBoundsException") hx hb hfl hown (by decide) (by decide) (hw_ hts 1 rfl) (hw_ hts 2 rfl) hsa (thr_at1 hXW (fun w h => hts w (List.mem_cons_of_mem _ (List.mem_append_right _ h)))) (by decide +kernel) hU hNs hS (hl.1.trans hml.symm) dX6_gain_18 dX6_gain_21 dX6_gain_22 dX6_gain_24 dX6_gain_27 (fun x hx => (htab x hx).elim) (Nat.lt_of_sub_pos (Nat.le_of_ble_eq_true rfl)) (Nat.le_of_ble_eq_true rfl) (Nat.le_of_ble_eq_true rfl) (Nat.le_of_ble_eq_true rfl) hlocks (fun t h1 h2 h3 => ⟨(S, Y), trivial, ⟨(1 : Int32), rfl, by decide, hR, thr_P hP h3⟩, thr_F hS h2 h3⟩) hS.2.2 (Nat.le_of_ble_eq_true rfl) (Nat.le_of_ble_eq_true rfl)
abbrev rm_X6_bestDay : Room := { frames := 6, cells := 1, slots := 6, locals := 152 }
abbrev x_X6_bestDay (dC : Nat → ClassId) (dI : Nat → Nat → Nat) (cI cZ cS : ClassId) (aF aN aT aL aO aH : Nat → Nat) (ah : Nat → Nat → Nat) (aP aX : Nat → Nat)  (res : Int32 × Int32 × Pic × Pic) (A : Nat → Prop) : String → State → State → Prop := vx_X (fun (_ : Pic × Pic) => True) (fun E u t => ∃ c : Int32, exN c = E ∧ ¬ c = 0 ∧ (c, (0 : Int32), u) = res ∧ va_P (dC, dI) vwCl (wFm aF aN aT aL aO aH aP aX ++ (wSt cI aN u.1 ++ (wLo cI aL u.2 ++ (wOu aO aN aL)))) t.heap) A
abbrev q_X6_bestDay (dC : Nat → ClassId) (dI : Nat → Nat → Nat) (cI cZ cS : ClassId) (aF aN aT aL aO aH : Nat → Nat) (ah : Nat → Nat → Nat) (aP aX : Nat → Nat)  (res : Int32 × Int32 × Pic × Pic) (A : Nat → Prop) : Array Value → State → Outcome → State → Prop := va_Qi (fun (r : Int32) (u : Pic × Pic) => ((0 : Int32), r, u) = res) (fun u t => va_P (dC, dI) vwCl (wFm aF aN aT aL aO aH aP aX ++ (wSt cI aN u.1 ++ (wLo cI aL u.2 ++ (wOu aO aN aL)))) t.heap) A
set_option maxHeartbeats 4000000 in
set_option maxRecDepth 100000 in
theorem met_X6_bestDay (l : Launch) (hfl : l.stackTraces = false) (dC : Nat → ClassId) (dI : Nat → Nat → Nat) (cI cZ cS : ClassId) (aF aN aT aL aO aH : Nat → Nat) (ah : Nat → Nat → Nat) (aP aX : Nat → Nat) (S : Pic) (Y : Pic) (base sz : Nat) (p1 : Int32) : vx_Met l yX6_bestDay wsX6_bestDay rm_X6_bestDay (va_Pc [.ref (aF 0), .int p1] (pX (dC, dI) (tyS cI cZ cS) (wFm aF aN aT aL aO aH aP aX ++ (wSt cI aN S ++ (wLo cI aL Y ++ (wOu aO aN aL)))) base sz)) (q_X6_bestDay dC dI cI cZ cS aF aN aT aL aO aH ah aP aX (f6_bestDay S Y p1) (va_A (wFm aF aN aT aL aO aH aP aX ++ (wSt cI aN S ++ (wLo cI aL Y ++ (wOu aO aN aL)))) sz)) (x_X6_bestDay dC dI cI cZ cS aF aN aT aL aO aH ah aP aX (f6_bestDay S Y p1) (va_A (wFm aF aN aT aL aO aH aP aX ++ (wSt cI aN S ++ (wLo cI aL Y ++ (wOu aO aN aL)))) sz)) 1 6 (va_A (wFm aF aN aT aL aO aH aP aX ++ (wSt cI aN S ++ (wLo cI aL Y ++ (wOu aO aN aL)))) sz) := by
  refine vx_ofW (cc := cX6_bestDay) (maxL := 2) (ret := (some .int)) (by decide) rfl ?_
  intro p e s m args below meth c s₁ B hml htab hv
  obtain ⟨rfl, hsz, hP, hK, hD0, hN, hbs, hXW⟩ := hv
  have hx := B.exec
  have hb := B.bytes
  have hr := B.returns
  have hts := atoms_spec (ws := wsX6_bestDay) B.pre
  have hown : s.vm.findClass RX6 = some m.cls := findClass_of_methodNamed B.named
  have hlocks := B.notSynchronized
  subst hsz
  have hD := hD0.self (sz := s.heap.size)
  generalize hAe : va_A (wFm aF aN aT aL aO aH aP aX ++ (wSt cI aN S ++ (wLo cI aL Y ++ (wOu aO aN aL)))) s.heap.size = A at hD ⊢
  have hA : ∀ q : Nat, s.heap.size ≤ q → A q := fun q h => by rw [← hAe]; exact Or.inr h
  have hS : va_S A s.heap s.heap [] := va_S.rf
  have hAb : ∀ q, A q → base ≤ q := fun q h => by rw [← hAe] at h; exact base_of hD0 hbs q h
  have hU := hXW.2.1.narrow hAb
  have hNs := hXW.2.2.1.narrow hAb
  have hP : va_P (dC, dI) vwCl (wFm aF aN aT aL aO aH aP aX ++ (wSt cI aN S ++ (wLo cI aL Y ++ (wOu aO aN aL)))) s.heap := hP
  generalize hR : f6_bestDay S Y p1 = res
  rw [f6_bestDay] at hR
  have hin6 : ∀ w ∈ wsX60, w ∈ wsX6_bestDay := by decide +kernel
  have hl := lv_entry ([.ref (aF 0), .int p1]) (n := 2) (Nat.le_of_ble_eq_true rfl)
  rw [lg_entry_eq]
  generalize (lg_sl ([.ref (aF 0), .int p1]) ++ List.replicate (2 - (lg_sl ([.ref (aF 0), .int p1])).length) Slot.unset).toArray = ls at hl ⊢
  have hl : lv_has ls 2 [(0, .ref (aF 0)), (1, .int p1)] := hl
  refine lv_aload_n hx hb dX6_bestDay_0 rfl (lv_at hl 0 rfl) ?_
  refine va_get (D := (dC, dI)) (ci := 6) (v := .ref (aN 0)) (C := RX6) (T := TX6) (N := 7) hx hb hts hin6 hown hK hP 0 rfl rfl 0 (by decide) (hw_ hts 3 rfl) (fun _ h9 => h9) rfl dX6_bestDay_1 ?_
  refine lv_iload_n hx hb dX6_bestDay_4 rfl (lv_at hl 1 rfl) ?_
  refine va_calli (va_runV (As := [.int p1]) (rest := []) ⟨hx, hb, hml, hown, hts⟩ (met_X5_hasDish l dC dI cI cZ cS aN S s.heap.size p1) (cwV 1 hts gX6_bestDay_X5_hasDish rfl rfl rfl (by decide +kernel) ⟨Nat.le_of_ble_eq_true rfl, Nat.le_of_ble_eq_true rfl⟩) (pV (wc := wSt cI aN S) (ci := 5) (q0 := 1) hK hP hD hN [1, 2, 3, 4, 5, 6, 7, 8, 9, 10, 11] rfl (by decide) rfl rfl) rfl rfl hl.1 rfl (lv_room (Nat.le_of_ble_eq_true rfl)) dX6_bestDay_5 ⟨Nat.zero_le _, Nat.zero_le _⟩) hS (fun q _ h => a0_in hS hA q h) (a0_in hS hA) (fun r1 u t H1 locs ht hvm hw hB hz1 hk1 hS => ?_)
  obtain ⟨hw, nb2⟩ := hw
  subst hw
  have hP := rdk hP hk1
  refine lv_if_ne (tgt := 21) hx hb dX6_bestDay_8 (by decide) (fun c_3 => ?_) (fun c_3 => ?_)
  · rw [if_neg c_3] at hR
    refine lv_aload_n hx hb dX6_bestDay_21 rfl (lv_at hl 0 rfl) ?_
    refine va_get (D := (dC, dI)) (ci := 6) (v := .ref (aO 0)) (C := RX6) (T := TX6) (N := 7) hx hb hts hin6 hown hK hP 0 rfl rfl 3 (by decide) (hw_ hts 4 rfl) (fun _ h9 => h9) rfl dX6_bestDay_22 ?_
    refine lv_iload_n hx hb dX6_bestDay_25 rfl (lv_at hl 1 rfl) ?_
    have hF := va_free (wc := wOu aO aN aL ++ (wLo cI aL Y ++ (wSt cI aN S))) hD hS hA [15, 12, 13, 14, 1, 2, 3, 4, 5, 6, 7, 8, 9, 10, 11] rfl
    refine va_calli (va_runV (As := [.int p1]) (rest := []) ⟨hx, hb, hml, hown, hts⟩ (met_X2_bestDayOf l dC dI cI cZ cS aO aL aN Y S H1.size p1) (cwV 1 hts gX6_bestDay_X2_bestDayOf rfl rfl rfl (by decide +kernel) ⟨Nat.le_of_ble_eq_true rfl, Nat.le_of_ble_eq_true rfl⟩) (pV (wc := wOu aO aN aL ++ (wLo cI aL Y ++ (wSt cI aN S))) (ci := 2) (q0 := 15) hK hP hD hN [15, 12, 13, 14, 1, 2, 3, 4, 5, 6, 7, 8, 9, 10, 11] rfl (by decide) rfl rfl) rfl rfl hl.1 rfl (lv_room (Nat.le_of_ble_eq_true rfl)) dX6_bestDay_26 ⟨Nat.zero_le _, Nat.zero_le _⟩) hS (fun q _ h => hF q h) hF (fun r4 u t H2 locs ht hvm hw hB hz1 hk1 hS => ?_)
    obtain ⟨u5, u6⟩ := u
    try dsimp only at hw hB
    rw [ht] at hB
    have hR := bd3_n hw hR
    have hP := wrk2 (w2 := wFm aF aN aT aL aO aH aP aX ++ (wSt cI aN u6 ++ (wLo cI aL u5 ++ (wOu aO aN aL)))) (wr := wFm aF aN aT aL aO aH aP aX) hP hD [15, 12, 13, 14, 1, 2, 3, 4, 5, 6, 7, 8, 9, 10, 11] [0] rfl rfl (by decide) hk1 hB [0, 5, 6, 7, 8, 9, 10, 11, 12, 13, 14, 15, 2, 3, 4, 1] rfl
    have hD := D_addr (w1 := wFm aF aN aT aL aO aH aP aX ++ (wSt cI aN u6 ++ (wLo cI aL u5 ++ (wOu aO aN aL)))) hD rfl
    exact vx_ret (W.widen (k := 1) (n := 6) (Nat.zero_le _) (Nat.zero_le _) (W.iret (v := r4) hx hb hr (fun t ht hW => ⟨⟨r4, (u6, u5), rfl, hR, P_at ht hP⟩, hS.F ht⟩) hS.2.2 dX6_bestDay_29))
  · rw [if_pos c_3] at hR
    obtain ⟨sa, hsa⟩ := hXW.1 90 (by decide)
    exact vx_throwS (text := strT 90) (sa := sa) (A := A) (names := ["java/lang/RuntimeException", "java/lang/Exception"]) (cls := "java/lang/IndexOutOfBoundsException") hx hb hfl hown (by decide) (by decide) (hw_ hts 1 rfl) (hw_ hts 2 rfl) hsa (thr_at1 hXW (fun w h => hts w (List.mem_cons_of_mem _ (List.mem_append_right _ h)))) (by decide +kernel) hU hNs hS (hl.1.trans hml.symm) dX6_bestDay_11 dX6_bestDay_14 dX6_bestDay_15 dX6_bestDay_17 dX6_bestDay_20 (fun x hx => (htab x hx).elim) (Nat.lt_of_sub_pos (Nat.le_of_ble_eq_true rfl)) (Nat.le_of_ble_eq_true rfl) (Nat.le_of_ble_eq_true rfl) (Nat.le_of_ble_eq_true rfl) hlocks (fun t h1 h2 h3 => ⟨(S, Y), trivial, ⟨(1 : Int32), rfl, by decide, hR, thr_P hP h3⟩, thr_F hS h2 h3⟩) hS.2.2 (Nat.le_of_ble_eq_true rfl) (Nat.le_of_ble_eq_true rfl)
