def fRJ7_fill_53178_L5 (n : Nat) (p2 : Int32) (v1 : Int32) : Nat → Int32 → (Nat → Int32) → ((Nat → Int32) → (Option ((Nat → Int32)))) → Option ((Nat → Int32))
  | 0, x2_5, f_5, k => (k f_5)
  | fu + 1, x2_5, f_5, k => (if v1 ≤ x2_5 then (k f_5) else (ck x2_5 n (bd (upd f_5 (ix x2_5) p2) (fun fb5 => (fRJ7_fill_53178_L5 n p2 v1 fu (x2_5 + 1) fb5 k)))))

def fRJ7_fill_53178 (n : Nat) (f : (Nat → Int32)) (p2 : Int32) : Option ((Nat → Int32)) := (bd (nI n) (fun v1 => (fRJ7_fill_53178_L5 n p2 v1 (fuelN (0 : Int32) v1) (0 : Int32) f (fun f_5 => (some f_5)))))
abbrev rm_J7_fill_53178 : Room := { frames := 0, cells := 0, slots := 0, locals := 0 }
abbrev q_J7_fill_53178 (dC : Nat → ClassId) (dI : Nat → Nat → Nat) (cI cZ cS : ClassId) (q : Nat) (n : Nat) (hn : n < 2 ^ 31)  (res : (Nat → Int32)) (A : Nat → Prop) : Array Value → State → Outcome → State → Prop := va_Qv (fun (u : (Nat → Int32)) => u = res) (fun u t => va_P (dC, dI) vwCl ([(q, .inl (cI, n, .inl u))]) t.heap) A
set_option maxHeartbeats 4000000 in
set_option maxRecDepth 100000 in
theorem metR_J7_fill_53178 (l : Launch) (dC : Nat → ClassId) (dI : Nat → Nat → Nat) (cI cZ cS : ClassId) (q : Nat) (n : Nat) (hn : n < 2 ^ 31) (f : (Nat → Int32)) (sz : Nat) (p2 : Int32) (res : (Nat → Int32)) (hR : fRJ7_fill_53178 n f p2 = some res) : Met l yJ7_fill_53178 wsJ7_fill_53178 rm_J7_fill_53178 (va_Pc [.ref q, .int p2] (pW (dC, dI) (tyS cI cZ cS) ([(q, .inl (cI, n, .inl f))]) sz)) (q_J7_fill_53178 dC dI cI cZ cS q n hn res (va_A ([(q, .inl (cI, n, .inl f))]) sz)) 0 0 (va_A ([(q, .inl (cI, n, .inl f))]) sz) := by
  refine Met.ofW (cc := cJ7_fill_53178) (maxL := 4) (ret := none) (by decide) rfl ?_
  intro p e s m args below meth c s₁ B hml hv
  obtain ⟨rfl, hsz, hP, hK, hD0, hN⟩ := hv
  have hx := B.exec
  have hb := B.bytes
  have hr := B.returns
  have hts := atoms_spec (ws := wsJ7_fill_53178) B.pre
  have hown : s.vm.findClass RJ7 = some m.cls := findClass_of_methodNamed B.named
  have hlocks := B.notSynchronized
  subst hsz
  have hD := hD0.self (sz := s.heap.size)
  generalize hAe : va_A ([(q, .inl (cI, n, .inl f))]) s.heap.size = A at hD ⊢
  have hA : ∀ q : Nat, s.heap.size ≤ q → A q := fun q h => by rw [← hAe]; exact Or.inr h
  have hS : va_S A s.heap s.heap [] := va_S.rf
  have hP : va_P (dC, dI) vwCl ([(q, .inl (cI, n, .inl f))]) s.heap := hP
  rw [fRJ7_fill_53178] at hR
  have hl := lv_entry ([.ref q, .int p2]) (n := 4) (Nat.le_of_ble_eq_true rfl)
  rw [lg_entry_eq]
  generalize (lg_sl ([.ref q, .int p2]) ++ List.replicate (4 - (lg_sl ([.ref q, .int p2])).length) Slot.unset).toArray = ls at hl ⊢
  have hl : lv_has ls 4 [(0, .ref q), (1, .int p2)] := hl
  refine lv_iconst (v := (0 : Int32)) hx hb dJ7_fill_53178_0 (by decide) ?_
  refine lv_istore_n (lv' := [(2, .int (0 : Int32)), (0, .ref q), (1, .int p2)]) hx hb dJ7_fill_53178_1 rfl hl (by decide) rfl (fun ls hl => ?_)
  refine lv_aload_n hx hb dJ7_fill_53178_2 rfl (lv_at hl 1 rfl) ?_
  refine va_alen (v := nI n) hx hb hK hP 0 0 rfl rfl rfl dJ7_fill_53178_3 ?_
  refine lv_topi (fun v1 hv1 => ?_)
  have hR := bd_n hv1 hR
  refine lv_istore_n (lv' := [(3, .int v1), (2, .int (0 : Int32)), (0, .ref q), (1, .int p2)]) hx hb dJ7_fill_53178_4 rfl hl (by decide) rfl (fun ls hl => ?_)
  have LOOP5 : ∀ (k : (Nat → Int32) → (Option ((Nat → Int32)))), (∀ (f_5 : (Nat → Int32)) (H1 : Heap) (locs : List Loc), k f_5 = some res → va_P (dC, dI) vwCl ([(q, .inl (cI, n, .inl f_5))]) H1 → va_D A ([(q, .inl (cI, n, .inl f_5))]) → va_S A s.heap H1 locs → ∀ (ls : Array Slot), lv_has ls 4 [] → W p l e (headSpec wsJ7_fill_53178 rm_J7_fill_53178).room s m ([.ref q, .int p2] : List Value).toArray below meth c H1 locs 0 0 (MQ below (q_J7_fill_53178 dC dI cI cZ cS q n hn res A) ([.ref q, .int p2] : List Value).toArray s 0 0 A) (F0 m 20 ls [])) → ∀ (nf : Nat) (x2_5 : Int32) (f_5 : (Nat → Int32)) (H1 : Heap) (locs : List Loc), (v1).toInt - (x2_5).toInt ≤ (nf : Int) → fRJ7_fill_53178_L5 n p2 v1 nf x2_5 f_5 k = some res → va_P (dC, dI) vwCl ([(q, .inl (cI, n, .inl f_5))]) H1 → va_D A ([(q, .inl (cI, n, .inl f_5))]) → va_S A s.heap H1 locs → ∀ (ls : Array Slot), lv_has ls 4 [(2, .int x2_5), (3, .int v1), (0, .ref q), (1, .int p2)] → W p l e (headSpec wsJ7_fill_53178 rm_J7_fill_53178).room s m ([.ref q, .int p2] : List Value).toArray below meth c H1 locs 0 0 (MQ below (q_J7_fill_53178 dC dI cI cZ cS q n hn res A) ([.ref q, .int p2] : List Value).toArray s 0 0 A) (F0 m 5 ls []) := by
    intro k hk nf
    induction nf with
    | zero =>
      intro x2_5 f_5 H1 locs hfu hR hP hD hS ls hl
      rw [fRJ7_fill_53178_L5] at hR
      refine lv_iload_n hx hb dJ7_fill_53178_5 rfl (lv_at hl 0 rfl) ?_
      refine lv_iload_n hx hb dJ7_fill_53178_6 rfl (lv_at hl 1 rfl) ?_
      refine lv_icmp_ge (tgt := 20) hx hb dJ7_fill_53178_7 (by decide) (fun c_2 => ?_) (fun c_2 => ?_)
      · skip
        exact hk f_5 _ _  hR hP hD hS ls (lv_sub hl [] rfl)
      · exact (fuel0 hfu c_2).elim
    | succ nf ih =>
      intro x2_5 f_5 H1 locs hfu hR hP hD hS ls hl
      rw [fRJ7_fill_53178_L5] at hR
      refine lv_iload_n hx hb dJ7_fill_53178_5 rfl (lv_at hl 0 rfl) ?_
      refine lv_iload_n hx hb dJ7_fill_53178_6 rfl (lv_at hl 1 rfl) ?_
      refine lv_icmp_ge (tgt := 20) hx hb dJ7_fill_53178_7 (by decide) (fun c_3 => ?_) (fun c_3 => ?_)
      · rw [if_pos c_3] at hR
        exact hk f_5 _ _  hR hP hD hS ls (lv_sub hl [] rfl)
      · rw [if_neg c_3] at hR
        have hfu := fuelS hfu c_3
        refine lv_aload_n hx hb dJ7_fill_53178_10 rfl (lv_at hl 2 rfl) ?_
        refine lv_iload_n hx hb dJ7_fill_53178_11 rfl (lv_at hl 0 rfl) ?_
        refine lv_iload_n hx hb dJ7_fill_53178_12 rfl (lv_at hl 3 rfl) ?_
        obtain ⟨hin4, hR⟩ := ck_some hR
        refine va_iast (f := f_5) hx hb hK hP hD hS 0 0 rfl rfl hin4 dJ7_fill_53178_13 (fun H2 locs hP hD hS => ?_)
        have hP : va_P (dC, dI) vwCl ([(q, .inl (cI, n, .inl (upd f_5 (ix x2_5) p2)))]) H2 := hP
        have hD : va_D A ([(q, .inl (cI, n, .inl (upd f_5 (ix x2_5) p2)))]) := hD
        obtain ⟨fb5, hfb5⟩ : ∃ z : (Nat → Int32), z = (upd f_5 (ix x2_5) p2) := ⟨_, rfl⟩
        rw [← hfb5] at hP hD
        have hR := bd_n hfb5 hR
        refine lv_iinc (v := (x2_5 + 1)) (lv' := [(2, .int (x2_5 + 1)), (3, .int v1), (0, .ref q), (1, .int p2)]) hx hb dJ7_fill_53178_14 hl (k := 0) rfl rfl (by decide) rfl (fun ls hl => ?_)
        refine lv_goto (tgt := 5) hx hb dJ7_fill_53178_17 (by decide) ?_
        exact ih (x2_5 + 1) fb5 _ _ hfu hR hP hD hS ls (lv_sub hl [0, 1, 2, 3] rfl)
  refine LOOP5 (fun f_5 => (some f_5)) (fun f_5 H1 locs hR hP hD hS ls hl => ?_) (fuelN (0 : Int32) v1) (0 : Int32) f _ _ (fuelE _ _) hR hP hD hS ls (lv_sub hl [1, 0, 2, 3] rfl)
  try dsimp only at hR
  exact W.vret hx hb hr (fun t ht hW => ⟨⟨f_5, rfl, Option.some.inj hR, P_at ht hP⟩, hS.F ht⟩) hS.2.2 dJ7_fill_53178_20
theorem fill_loop {n : Nat} (hn : n < 2 ^ 31) (v : Int32) (k : (Nat → Int32) → Option (Nat → Int32)) : ∀ (m i : Nat) (f : Nat → Int32), i + m = n → fRJ7_fill_53178_L5 n v (nI n) m (nI i) f k = k (fun j => if i ≤ j ∧ j < n then v else f j) := by
  intro m
  induction m with
  | zero =>
    intro i f h
    rw [fRJ7_fill_53178_L5]
    congr 1
    funext j
    rw [if_neg (by omega)]
  | succ m ih =>
    intro i f h
    rw [fRJ7_fill_53178_L5, if_neg (nI_ge (by omega) (by omega))]
    have e1 : (nI i).toNatClampNeg = i := nI_clamp (by omega)
    rw [ck, if_neg (nI_in (by omega) (by omega))]
    show fRJ7_fill_53178_L5 n v (nI n) m (nI i + 1) (upd f (ix (nI i)) v) k = _
    rw [nI_1, ih (i + 1) _ (by omega)]
    congr 1
    funext j
    by_cases c : i + 1 ≤ j ∧ j < n
    · rw [if_pos c, if_pos (by omega)]
    · rw [if_neg c]
      show (if j = (nI i).toNatClampNeg then v else f j) = _
      rw [e1]
      by_cases c2 : j = i
      · rw [if_pos c2, if_pos (by omega)]
      · rw [if_neg c2, if_neg (by omega)]
theorem fill_eq {n : Nat} (hn : n < 2 ^ 31) (f : Nat → Int32) (v : Int32) : fRJ7_fill_53178 n f v = some (fJ7_fill_53178 n f v) := by
  have e : fRJ7_fill_53178 n f v = fRJ7_fill_53178_L5 n v (nI n) (fuelN (0 : Int32) (nI n)) (0 : Int32) f (fun g => some g) := rfl
  rw [e, ← nI_0, fuelN_nI (by omega) hn, fill_loop hn v _ (n - 0) 0 f (by omega)]
  congr 1
  funext j
  by_cases c : j < n
  · rw [if_pos (by omega), fJ7_fill_53178, if_pos c]
  · rw [if_neg (by omega), fJ7_fill_53178, if_neg c]
theorem met_J7_fill_53178 (l : Launch) (dC : Nat → ClassId) (dI : Nat → Nat → Nat) (cI cZ cS : ClassId) (q : Nat) (n : Nat) (hn : n < 2 ^ 31) (f : (Nat → Int32)) (sz : Nat) (p2 : Int32) : Met l yJ7_fill_53178 wsJ7_fill_53178 rm_J7_fill_53178 (va_Pc [.ref q, .int p2] (pW (dC, dI) (tyS cI cZ cS) ([(q, .inl (cI, n, .inl f))]) sz)) (q_J7_fill_53178 dC dI cI cZ cS q n hn (fJ7_fill_53178 n f p2) (va_A ([(q, .inl (cI, n, .inl f))]) sz)) 0 0 (va_A ([(q, .inl (cI, n, .inl f))]) sz) := metR_J7_fill_53178 l dC dI cI cZ cS q n hn f sz p2 _ (fill_eq hn f p2)
abbrev rm_X1_forget : Room := { frames := 1, cells := 0, slots := 0, locals := 23 }
abbrev q_X1_forget (dC : Nat → ClassId) (dI : Nat → Nat → Nat) (cI cZ cS : ClassId) (aL : Nat → Nat)  (res : Pic) (A : Nat → Prop) : Array Value → State → Outcome → State → Prop := va_Qv (fun (u : Pic) => u = res) (fun u t => va_P (dC, dI) vwCl (wLo cI aL u) t.heap) A
set_option maxHeartbeats 4000000 in
set_option maxRecDepth 100000 in
theorem met_X1_forget (l : Launch) (dC : Nat → ClassId) (dI : Nat → Nat → Nat) (cI cZ cS : ClassId) (aL : Nat → Nat) (Y : Pic) (sz : Nat)  : Met l yX1_forget wsX1_forget rm_X1_forget (va_Pc [.ref (aL 0)] (pW (dC, dI) (tyS cI cZ cS) (wLo cI aL Y) sz)) (q_X1_forget dC dI cI cZ cS aL (f1_forget Y) (va_A (wLo cI aL Y) sz)) 0 0 (va_A (wLo cI aL Y) sz) := by
  refine Met.ofW (cc := cX1_forget) (maxL := 1) (ret := none) (by decide) rfl ?_
  intro p e s m args below meth c s₁ B hml hv
  obtain ⟨rfl, hsz, hP, hK, hD0, hN⟩ := hv
  have hx := B.exec
  have hb := B.bytes
  have hr := B.returns
  have hts := atoms_spec (ws := wsX1_forget) B.pre
  have hown : s.vm.findClass RX1 = some m.cls := findClass_of_methodNamed B.named
  have hlocks := B.notSynchronized
  subst hsz
  have hD := hD0.self (sz := s.heap.size)
  generalize hAe : va_A (wLo cI aL Y) s.heap.size = A at hD ⊢
  have hA : ∀ q : Nat, s.heap.size ≤ q → A q := fun q h => by rw [← hAe]; exact Or.inr h
  have hS : va_S A s.heap s.heap [] := va_S.rf
  have hP : va_P (dC, dI) vwCl (wLo cI aL Y) s.heap := hP
  generalize hR : f1_forget Y = res
  rw [f1_forget] at hR
  have hin1 : ∀ w ∈ wsX10, w ∈ wsX1_forget := by decide +kernel
  have hl := lv_entry ([.ref (aL 0)]) (n := 1) (Nat.le_of_ble_eq_true rfl)
  rw [lg_entry_eq]
  generalize (lg_sl ([.ref (aL 0)]) ++ List.replicate (1 - (lg_sl ([.ref (aL 0)])).length) Slot.unset).toArray = ls at hl ⊢
  have hl : lv_has ls 1 [(0, .ref (aL 0))] := hl
  refine lv_aload_n hx hb dX1_forget_0 rfl (lv_at hl 0 rfl) ?_
  refine va_get (D := (dC, dI)) (ci := 1) (v := .ref (aL 1)) (C := RX1) (T := TX1) (N := 2) hx hb hts hin1 hown hK hP 0 rfl rfl 0 (by decide) (hw_ hts 1 rfl) (fun _ h9 => h9) rfl dX1_forget_1 ?_
  refine lv_iconst (v := (-1 : Int32)) hx hb dX1_forget_4 (by decide) ?_
  have hF := va_free (wc := [((aL 1), .inl (cI, 84, .inl (Y 0)))]) hD hS hA [1] rfl
  refine va_callv (va_runS (As := [.ref (aL 1), .int (-1 : Int32)]) (rest := []) ⟨hx, hb, hml, hown, hts⟩ (met_J7_fill_53178 l dC dI cI cZ cS (aL 1) 84 (by decide) (Y 0) s.heap.size (-1 : Int32)) (va_cwS 2 hts gX1_forget_J7_fill_53178 rfl rfl rfl (by decide +kernel) ⟨Nat.le_of_ble_eq_true rfl, Nat.le_of_ble_eq_true rfl⟩) (pS (wc := [((aL 1), .inl (cI, 84, .inl (Y 0)))]) hK hP hD hN [1] rfl (by decide)) rfl rfl hl.1 rfl (lv_room (Nat.le_of_ble_eq_true rfl)) dX1_forget_5 ⟨Nat.zero_le _, Nat.zero_le _⟩) hS (fun q _ h => hF q h) hF (fun  u1 t H1 locs ht hvm hw hB hz1 hk1 hS => ?_)
  try dsimp only at hw hB
  rw [ht] at hB
  subst hw
  have hP := wrk (w2 := wLo cI aL (pset Y 0 (fJ7_fill_53178 84 (Y 0) (-1 : Int32)))) hP hD [1] rfl (by decide) hk1 hB rfl rfl
  have hD := D_addr (w1 := wLo cI aL (pset Y 0 (fJ7_fill_53178 84 (Y 0) (-1 : Int32)))) hD rfl
  obtain ⟨Yb2, hYb2⟩ : ∃ z : Pic, z = (pset Y 0 (fJ7_fill_53178 84 (Y 0) (-1 : Int32))) := ⟨_, rfl⟩
  rw [← hYb2] at hP hD
  have hR := bd_n hYb2 hR
  refine lv_aload_n hx hb dX1_forget_8 rfl (lv_at hl 0 rfl) ?_
  refine va_get (D := (dC, dI)) (ci := 1) (v := .ref (aL 2)) (C := RX1) (T := TX1) (N := 2) hx hb hts hin1 hown hK hP 0 rfl rfl 1 (by decide) (hw_ hts 2 rfl) (fun _ h9 => h9) rfl dX1_forget_9 ?_
  refine lv_iconst (v := (0 : Int32)) hx hb dX1_forget_12 (by decide) ?_
  have hF := va_free (wc := [((aL 2), .inl (cI, 84, .inl (Yb2 1)))]) hD hS hA [2] rfl
  refine va_callv (va_runS (As := [.ref (aL 2), .int (0 : Int32)]) (rest := []) ⟨hx, hb, hml, hown, hts⟩ (met_J7_fill_53178 l dC dI cI cZ cS (aL 2) 84 (by decide) (Yb2 1) H1.size (0 : Int32)) (va_cwS 2 hts gX1_forget_J7_fill_53178 rfl rfl rfl (by decide +kernel) ⟨Nat.le_of_ble_eq_true rfl, Nat.le_of_ble_eq_true rfl⟩) (pS (wc := [((aL 2), .inl (cI, 84, .inl (Yb2 1)))]) hK hP hD hN [2] rfl (by decide)) rfl rfl hl.1 rfl (lv_room (Nat.le_of_ble_eq_true rfl)) dX1_forget_13 ⟨Nat.zero_le _, Nat.zero_le _⟩) hS (fun q _ h => hF q h) hF (fun  u3 t H2 locs ht hvm hw hB hz1 hk1 hS => ?_)
  try dsimp only at hw hB
  rw [ht] at hB
  subst hw
  have hP := wrk (w2 := wLo cI aL (pset Yb2 1 (fJ7_fill_53178 84 (Yb2 1) (0 : Int32)))) hP hD [2] rfl (by decide) hk1 hB rfl rfl
  have hD := D_addr (w1 := wLo cI aL (pset Yb2 1 (fJ7_fill_53178 84 (Yb2 1) (0 : Int32)))) hD rfl
  obtain ⟨Yb4, hYb4⟩ : ∃ z : Pic, z = (pset Yb2 1 (fJ7_fill_53178 84 (Yb2 1) (0 : Int32))) := ⟨_, rfl⟩
  rw [← hYb4] at hP hD
  have hR := bd_n hYb4 hR
  exact W.vret hx hb hr (fun t ht hW => ⟨⟨Yb4, rfl, hR, P_at ht hP⟩, hS.F ht⟩) hS.2.2 dX1_forget_16
abbrev rm_X1_nextSource : Room := { frames := 1, cells := 0, slots := 0, locals := 21 }
abbrev q_X1_nextSource (dC : Nat → ClassId) (dI : Nat → Nat → Nat) (cI cZ cS : ClassId) (aL : Nat → Nat) (aS : Nat → Nat)  (res : Int32) (A : Nat → Prop) : Array Value → State → Outcome → State → Prop := va_Qi (fun (r : Int32) (u : Unit) => r = res) (fun _ _ => True) A
set_option maxHeartbeats 4000000 in
set_option maxRecDepth 100000 in
theorem met_X1_nextSource (l : Launch) (dC : Nat → ClassId) (dI : Nat → Nat → Nat) (cI cZ cS : ClassId) (aL : Nat → Nat) (aS : Nat → Nat) (Y : Pic) (S : Pic) (sz : Nat) (p2 : Int32) (p3 : Int32) : Met l yX1_nextSource wsX1_nextSource rm_X1_nextSource (va_Pc [.ref (aL 0), .ref (aS 0), .int p2, .int p3] (pW (dC, dI) (tyS cI cZ cS) (wLo cI aL Y ++ (wSt cI aS S)) sz)) (q_X1_nextSource dC dI cI cZ cS aL aS (f1_nextSource Y S p2 p3) (a0 sz)) 0 0 (a0 sz) := by
  refine Met.ofW (cc := cX1_nextSource) (maxL := 11) (ret := (some .int)) (by decide) rfl ?_
  intro p e s m args below meth c s₁ B hml hv
  obtain ⟨rfl, hsz, hP, hK, hD0, hN⟩ := hv
  have hx := B.exec
  have hb := B.bytes
  have hr := B.returns
  have hts := atoms_spec (ws := wsX1_nextSource) B.pre
  have hown : s.vm.findClass RX1 = some m.cls := findClass_of_methodNamed B.named
  have hlocks := B.notSynchronized
  subst hsz
  have hD := hD0
  have hA : ∀ q : Nat, s.heap.size ≤ q → a0 s.heap.size q := fun q h => Or.inr h
  have hS : va_S (a0 s.heap.size) s.heap s.heap [] := va_S.rf
  have hP : va_P (dC, dI) vwCl (wLo cI aL Y ++ (wSt cI aS S)) s.heap := hP
  generalize hR : f1_nextSource Y S p2 p3 = res
  rw [f1_nextSource] at hR
  have hin5 : ∀ w ∈ wsX50, w ∈ wsX1_nextSource := by decide +kernel
  have hin1 : ∀ w ∈ wsX10, w ∈ wsX1_nextSource := by decide +kernel
  have hl := lv_entry ([.ref (aL 0), .ref (aS 0), .int p2, .int p3]) (n := 11) (Nat.le_of_ble_eq_true rfl)
  rw [lg_entry_eq]
  generalize (lg_sl ([.ref (aL 0), .ref (aS 0), .int p2, .int p3]) ++ List.replicate (11 - (lg_sl ([.ref (aL 0), .ref (aS 0), .int p2, .int p3])).length) Slot.unset).toArray = ls at hl ⊢
  have hl : lv_has ls 11 [(0, .ref (aL 0)), (1, .ref (aS 0)), (2, .int p2), (3, .int p3)] := hl
  refine lv_iconst (v := (-1 : Int32)) hx hb dX1_nextSource_0 (by decide) ?_
  refine lv_istore (lv' := [(4, .int (-1 : Int32)), (0, .ref (aL 0)), (1, .ref (aS 0)), (2, .int p2), (3, .int p3)]) hx hb dX1_nextSource_1 hl (by decide) rfl (fun ls hl => ?_)
  refine lv_iconst (v := (0 : Int32)) hx hb dX1_nextSource_3 (by decide) ?_
  refine lv_istore (lv' := [(5, .int (0 : Int32)), (4, .int (-1 : Int32)), (0, .ref (aL 0)), (1, .ref (aS 0)), (2, .int p2), (3, .int p3)]) hx hb dX1_nextSource_4 hl (by decide) rfl (fun ls hl => ?_)
  refine lv_iconst (v := (0 : Int32)) hx hb dX1_nextSource_6 (by decide) ?_
  refine lv_iload_n hx hb dX1_nextSource_7 rfl (lv_at hl 5 rfl) ?_
  refine lv_bipush (v := (6 : Int32)) hx hb dX1_nextSource_8 (by decide) ?_
  refine lv_isub hx hb dX1_nextSource_10 ?_
  refine va_mmax hx hb (hml.trans hl.1.symm) hown (hw_ hts 1 rfl) (hw_ hts 2 rfl) (hw_ hts 3 rfl) (hw_ hts 4 rfl) (Nat.le_of_ble_eq_true rfl) (Nat.le_of_ble_eq_true rfl) (Nat.zero_le _) (Nat.zero_le _) dX1_nextSource_11 ?_
  refine lv_iconst (v := (0 : Int32)) hx hb dX1_nextSource_14 (by decide) ?_
  refine va_calli (va_runSN (As := [.int (if (0 : Int32) < (p3 - (6 : Int32)) then (p3 - (6 : Int32)) else (0 : Int32)), .int (0 : Int32)]) (rest := []) ⟨hx, hb, hml, hown, hts⟩ (met_X6_cellOf l dC dI cI cZ cS s.heap.size (if (0 : Int32) < (p3 - (6 : Int32)) then (p3 - (6 : Int32)) else (0 : Int32)) (0 : Int32)) ⟨va_cnB 2 hts ggX1_nextSource_X6_cellOf rfl rfl rfl (hN_6 hN) (hw_ hts 10 rfl) (by decide +kernel) ⟨Nat.le_of_ble_eq_true rfl, Nat.le_of_ble_eq_true rfl⟩, (hw_ hts 9 rfl), trivial⟩ (pS (wc := []) hK hP hD hN [] rfl (by decide)) rfl rfl hl.1 rfl (lv_room (Nat.le_of_ble_eq_true rfl)) dX1_nextSource_15 ⟨Nat.zero_le _, Nat.zero_le _⟩) hS (fun q _ h => a0_in hS hA q h) (a0_in hS hA) (fun r1 u t H1 locs ht hvm hw hB hz1 hk1 hS => ?_)
  subst hw
  have hP := rdk hP hk1
  refine lv_topi (fun v2 hv2 => ?_)
  have hR := bd_n hv2 hR
  refine lv_istore (lv' := [(6, .int v2), (5, .int (0 : Int32)), (4, .int (-1 : Int32)), (0, .ref (aL 0)), (1, .ref (aS 0)), (2, .int p2), (3, .int p3)]) hx hb dX1_nextSource_18 hl (by decide) rfl (fun ls hl => ?_)
  refine lv_iload_n hx hb dX1_nextSource_20 rfl (lv_at hl 6 rfl) ?_
  refine lv_iconst (v := (0 : Int32)) hx hb dX1_nextSource_21 (by decide) ?_
  refine va_calli (va_runSN (As := [.int p3, .int (0 : Int32)]) (rest := []) ⟨hx, hb, hml, hown, hts⟩ (met_X6_cellOf l dC dI cI cZ cS H1.size p3 (0 : Int32)) ⟨va_cnB 2 hts ggX1_nextSource_X6_cellOf rfl rfl rfl (hN_6 hN) (hw_ hts 10 rfl) (by decide +kernel) ⟨Nat.le_of_ble_eq_true rfl, Nat.le_of_ble_eq_true rfl⟩, (hw_ hts 9 rfl), trivial⟩ (pS (wc := []) hK hP hD hN [] rfl (by decide)) rfl rfl hl.1 rfl (lv_room (Nat.le_of_ble_eq_true rfl)) dX1_nextSource_22 ⟨Nat.zero_le _, Nat.zero_le _⟩) hS (fun q _ h => a0_in hS hA q h) (a0_in hS hA) (fun r3 u t H2 locs ht hvm hw hB hz1 hk1 hS => ?_)
  subst hw
  have hP := rdk hP hk1
  refine lv_topi (fun v4 hv4 => ?_)
  have hR := bd_n hv4 hR
  refine lv_istore (lv' := [(7, .int v4), (6, .int v2), (5, .int (0 : Int32)), (4, .int (-1 : Int32)), (0, .ref (aL 0)), (1, .ref (aS 0)), (2, .int p2), (3, .int p3)]) hx hb dX1_nextSource_25 hl (by decide) rfl (fun ls hl => ?_)
  refine lv_iload hx hb dX1_nextSource_27 (lv_at hl 1 rfl) ?_
  refine lv_istore (lv' := [(8, .int v2), (7, .int v4), (6, .int v2), (5, .int (0 : Int32)), (4, .int (-1 : Int32)), (0, .ref (aL 0)), (1, .ref (aS 0)), (2, .int p2), (3, .int p3)]) hx hb dX1_nextSource_29 hl (by decide) rfl (fun ls hl => ?_)
  have LOOP31 : ∀ (k : Int32 → Int32), (∀ (x4_31 : Int32) (H3 : Heap) (locs : List Loc), k x4_31 = res → va_P (dC, dI) vwCl (wLo cI aL Y ++ (wSt cI aS S)) H3 → va_D (fun _ => True) (wLo cI aL Y ++ (wSt cI aS S)) → va_S (a0 s.heap.size) s.heap H3 locs → ∀ (ls : Array Slot), lv_has ls 11 [(4, .int x4_31)] → W p l e (headSpec wsX1_nextSource rm_X1_nextSource).room s m ([.ref (aL 0), .ref (aS 0), .int p2, .int p3] : List Value).toArray below meth c H3 locs 0 0 (MQ below (q_X1_nextSource dC dI cI cZ cS aL aS res (a0 s.heap.size)) ([.ref (aL 0), .ref (aS 0), .int p2, .int p3] : List Value).toArray s 0 0 (a0 s.heap.size)) (F0 m 123 ls [])) → ∀ (nf : Nat) (x4_31 : Int32) (x5_31 : Int32) (x8_31 : Int32) (H3 : Heap) (locs : List Loc), (v4).toInt - (x8_31).toInt ≤ (nf : Int) → f1_nextSource_L31 Y S p2 p3 v4 nf x4_31 x5_31 x8_31 k = res → va_P (dC, dI) vwCl (wLo cI aL Y ++ (wSt cI aS S)) H3 → va_D (fun _ => True) (wLo cI aL Y ++ (wSt cI aS S)) → va_S (a0 s.heap.size) s.heap H3 locs → ∀ (ls : Array Slot), lv_has ls 11 [(4, .int x4_31), (5, .int x5_31), (8, .int x8_31), (7, .int v4), (0, .ref (aL 0)), (1, .ref (aS 0)), (2, .int p2), (3, .int p3)] → W p l e (headSpec wsX1_nextSource rm_X1_nextSource).room s m ([.ref (aL 0), .ref (aS 0), .int p2, .int p3] : List Value).toArray below meth c H3 locs 0 0 (MQ below (q_X1_nextSource dC dI cI cZ cS aL aS res (a0 s.heap.size)) ([.ref (aL 0), .ref (aS 0), .int p2, .int p3] : List Value).toArray s 0 0 (a0 s.heap.size)) (F0 m 31 ls []) := by
    intro k hk nf
    induction nf with
    | zero =>
      intro x4_31 x5_31 x8_31 H3 locs hfu hR hP hD hS ls hl
      rw [f1_nextSource_L31] at hR
      refine lv_iload hx hb dX1_nextSource_31 (lv_at hl 2 rfl) ?_
      refine lv_iload hx hb dX1_nextSource_33 (lv_at hl 3 rfl) ?_
      refine lv_icmp_ge (tgt := 123) hx hb dX1_nextSource_35 (by decide) (fun c_5 => ?_) (fun c_5 => ?_)
      · skip
        exact hk x4_31 _ _  hR hP hD hS ls (lv_sub hl [0] rfl)
      · exact (fuel0 hfu c_5).elim
    | succ nf ih =>
      intro x4_31 x5_31 x8_31 H3 locs hfu hR hP hD hS ls hl
      rw [f1_nextSource_L31] at hR
      refine lv_iload hx hb dX1_nextSource_31 (lv_at hl 2 rfl) ?_
      refine lv_iload hx hb dX1_nextSource_33 (lv_at hl 3 rfl) ?_
      refine lv_icmp_ge (tgt := 123) hx hb dX1_nextSource_35 (by decide) (fun c_6 => ?_) (fun c_6 => ?_)
      · rw [if_pos c_6] at hR
        exact hk x4_31 _ _  hR hP hD hS ls (lv_sub hl [0] rfl)
      · rw [if_neg c_6] at hR
        have hfu := fuelS hfu c_6
        refine lv_aload_n hx hb dX1_nextSource_38 rfl (lv_at hl 5 rfl) ?_
        refine va_get (D := (dC, dI)) (ci := 5) (v := .ref (aS 11)) (C := RX5) (T := TX5) (N := 12) hx hb hts hin5 hown hK hP 3 rfl rfl 11 (by decide) (hw_ hts 5 rfl) (fun _ h9 => h9) rfl dX1_nextSource_39 ?_
        refine lv_iload hx hb dX1_nextSource_42 (lv_at hl 2 rfl) ?_
        refine va_calli (va_runSN (As := [.ref (aS 11), .int x8_31]) (rest := []) ⟨hx, hb, hml, hown, hts⟩ (met_X6_at l dC dI cI cZ cS (aS 11) 84 (by decide) (S 11) H3.size x8_31) ⟨va_cnB 2 hts ggX1_nextSource_X6_at rfl rfl rfl (hN_5 hN) (hw_ hts 10 rfl) (by decide +kernel) ⟨Nat.le_of_ble_eq_true rfl, Nat.le_of_ble_eq_true rfl⟩, (hw_ hts 12 rfl), trivial⟩ (pS (wc := [((aS 11), .inl (cI, 84, .inl (S 11)))]) hK hP hD hN [13] rfl (by decide)) rfl rfl hl.1 rfl (lv_room (Nat.le_of_ble_eq_true rfl)) dX1_nextSource_44 ⟨Nat.zero_le _, Nat.zero_le _⟩) hS (fun q _ h => a0_in hS hA q h) (a0_in hS hA) (fun r7 u t H4 locs ht hvm hw hB hz1 hk1 hS => ?_)
        subst hw
        have hP := rdk hP hk1
        refine lv_topi (fun v8 hv8 => ?_)
        have hR := bd_n hv8 hR
        refine lv_istore (lv' := [(9, .int v8), (4, .int x4_31), (5, .int x5_31), (8, .int x8_31), (7, .int v4), (0, .ref (aL 0)), (1, .ref (aS 0)), (2, .int p2), (3, .int p3)]) hx hb dX1_nextSource_47 hl (by decide) rfl (fun ls hl => ?_)
        refine lv_aload_n hx hb dX1_nextSource_49 rfl (lv_at hl 6 rfl) ?_
        refine va_get (D := (dC, dI)) (ci := 5) (v := .ref (aS 5)) (C := RX5) (T := TX5) (N := 12) hx hb hts hin5 hown hK hP 3 rfl rfl 5 (by decide) (hw_ hts 6 rfl) (fun _ h9 => h9) rfl dX1_nextSource_50 ?_
        refine lv_iload hx hb dX1_nextSource_53 (lv_at hl 0 rfl) ?_
        refine va_calli (va_runSN (As := [.ref (aS 5), .int v8]) (rest := []) ⟨hx, hb, hml, hown, hts⟩ (met_X6_at l dC dI cI cZ cS (aS 5) 12 (by decide) (S 5) H4.size v8) ⟨va_cnB 2 hts ggX1_nextSource_X6_at rfl rfl rfl (hN_5 hN) (hw_ hts 10 rfl) (by decide +kernel) ⟨Nat.le_of_ble_eq_true rfl, Nat.le_of_ble_eq_true rfl⟩, (hw_ hts 12 rfl), trivial⟩ (pS (wc := [((aS 5), .inl (cI, 12, .inl (S 5)))]) hK hP hD hN [8] rfl (by decide)) rfl rfl hl.1 rfl (lv_room (Nat.le_of_ble_eq_true rfl)) dX1_nextSource_55 ⟨Nat.zero_le _, Nat.zero_le _⟩) hS (fun q _ h => a0_in hS hA q h) (a0_in hS hA) (fun r9 u t H5 locs ht hvm hw hB hz1 hk1 hS => ?_)
        subst hw
        have hP := rdk hP hk1
        refine lv_iload_n hx hb dX1_nextSource_58 rfl (lv_at hl 7 rfl) ?_
        refine lv_icmp_ne (tgt := 117) hx hb dX1_nextSource_59 (by decide) (fun c_10 => ?_) (fun c_10 => ?_)
        · rw [if_neg c_10] at hR
          refine lv_iinc (v := (x8_31 + 1)) (lv' := [(8, .int (x8_31 + 1)), (9, .int v8), (4, .int x4_31), (5, .int x5_31), (7, .int v4), (0, .ref (aL 0)), (1, .ref (aS 0)), (2, .int p2), (3, .int p3)]) hx hb dX1_nextSource_117 hl (k := 3) rfl rfl (by decide) rfl (fun ls hl => ?_)
          refine lv_goto (tgt := 31) hx hb dX1_nextSource_120 (by decide) ?_
          exact ih x4_31 x5_31 (x8_31 + 1) _ _ hfu hR hP hD hS ls (lv_sub hl [2, 3, 0, 4, 5, 6, 7, 8] rfl)
        · rw [if_pos c_10] at hR
          refine lv_aload_n hx hb dX1_nextSource_62 rfl (lv_at hl 5 rfl) ?_
          refine va_get (D := (dC, dI)) (ci := 1) (v := .ref (aL 2)) (C := RX1) (T := TX1) (N := 2) hx hb hts hin1 hown hK hP 0 rfl rfl 1 (by decide) (hw_ hts 7 rfl) (fun _ h9 => h9) rfl dX1_nextSource_63 ?_
          refine lv_iload hx hb dX1_nextSource_66 (lv_at hl 3 rfl) ?_
          refine va_calli (va_runSN (As := [.ref (aL 2), .int x8_31]) (rest := []) ⟨hx, hb, hml, hown, hts⟩ (met_X6_at l dC dI cI cZ cS (aL 2) 84 (by decide) (Y 1) H5.size x8_31) ⟨va_cnB 2 hts ggX1_nextSource_X6_at rfl rfl rfl (hN_5 hN) (hw_ hts 10 rfl) (by decide +kernel) ⟨Nat.le_of_ble_eq_true rfl, Nat.le_of_ble_eq_true rfl⟩, (hw_ hts 12 rfl), trivial⟩ (pS (wc := [((aL 2), .inl (cI, 84, .inl (Y 1)))]) hK hP hD hN [2] rfl (by decide)) rfl rfl hl.1 rfl (lv_room (Nat.le_of_ble_eq_true rfl)) dX1_nextSource_68 ⟨Nat.zero_le _, Nat.zero_le _⟩) hS (fun q _ h => a0_in hS hA q h) (a0_in hS hA) (fun r11 u t H6 locs ht hvm hw hB hz1 hk1 hS => ?_)
          subst hw
          have hP := rdk hP hk1
          refine lv_if_ne (tgt := 117) hx hb dX1_nextSource_71 (by decide) (fun c_12 => ?_) (fun c_12 => ?_)
          · rw [if_neg c_12] at hR
            refine lv_iinc (v := (x8_31 + 1)) (lv' := [(8, .int (x8_31 + 1)), (9, .int v8), (4, .int x4_31), (5, .int x5_31), (7, .int v4), (0, .ref (aL 0)), (1, .ref (aS 0)), (2, .int p2), (3, .int p3)]) hx hb dX1_nextSource_117 hl (k := 3) rfl rfl (by decide) rfl (fun ls hl => ?_)
            refine lv_goto (tgt := 31) hx hb dX1_nextSource_120 (by decide) ?_
            exact ih x4_31 x5_31 (x8_31 + 1) _ _ hfu hR hP hD hS ls (lv_sub hl [2, 3, 0, 4, 5, 6, 7, 8] rfl)
          · rw [if_pos c_12] at hR
            refine lv_iload hx hb dX1_nextSource_74 (lv_at hl 3 rfl) ?_
            refine lv_iconst (v := (3 : Int32)) hx hb dX1_nextSource_76 (by decide) ?_
            refine lv_idiv hx hb dX1_nextSource_77 (by decide) ?_
            refine lv_aload_n hx hb dX1_nextSource_78 rfl (lv_at hl 6 rfl) ?_
            refine va_get (D := (dC, dI)) (ci := 5) (v := .ref (aS 6)) (C := RX5) (T := TX5) (N := 12) hx hb hts hin5 hown hK hP 3 rfl rfl 6 (by decide) (hw_ hts 8 rfl) (fun _ h9 => h9) rfl dX1_nextSource_79 ?_
            refine lv_iload hx hb dX1_nextSource_82 (lv_at hl 0 rfl) ?_
            refine va_calli (va_runSN (As := [.ref (aS 6), .int v8]) (rest := [.int (x8_31 / (3 : Int32))]) ⟨hx, hb, hml, hown, hts⟩ (met_X6_at l dC dI cI cZ cS (aS 6) 12 (by decide) (S 6) H6.size v8) ⟨va_cnB 2 hts ggX1_nextSource_X6_at rfl rfl rfl (hN_5 hN) (hw_ hts 10 rfl) (by decide +kernel) ⟨Nat.le_of_ble_eq_true rfl, Nat.le_of_ble_eq_true rfl⟩, (hw_ hts 12 rfl), trivial⟩ (pS (wc := [((aS 6), .inl (cI, 12, .inl (S 6)))]) hK hP hD hN [9] rfl (by decide)) rfl rfl hl.1 rfl (lv_room (Nat.le_of_ble_eq_true rfl)) dX1_nextSource_84 ⟨Nat.zero_le _, Nat.zero_le _⟩) hS (fun q _ h => a0_in hS hA q h) (a0_in hS hA) (fun r13 u t H7 locs ht hvm hw hB hz1 hk1 hS => ?_)
            subst hw
            have hP := rdk hP hk1
            refine lv_iadd hx hb dX1_nextSource_87 ?_
            refine lv_topi (fun v14 hv14 => ?_)
            have hR := bd_n hv14 hR
            refine lv_istore (lv' := [(10, .int v14), (9, .int v8), (4, .int x4_31), (5, .int x5_31), (8, .int x8_31), (7, .int v4), (0, .ref (aL 0)), (1, .ref (aS 0)), (2, .int p2), (3, .int p3)]) hx hb dX1_nextSource_88 hl (by decide) rfl (fun ls hl => ?_)
            refine lv_iload hx hb dX1_nextSource_90 (lv_at hl 0 rfl) ?_
            refine lv_iload_n hx hb dX1_nextSource_92 rfl (lv_at hl 9 rfl) ?_
            refine lv_icmp_lt (tgt := 117) hx hb dX1_nextSource_93 (by decide) (fun c_15 => ?_) (fun c_15 => ?_)
            · rw [if_pos c_15] at hR
              refine lv_iinc (v := (x8_31 + 1)) (lv' := [(8, .int (x8_31 + 1)), (10, .int v14), (9, .int v8), (4, .int x4_31), (5, .int x5_31), (7, .int v4), (0, .ref (aL 0)), (1, .ref (aS 0)), (2, .int p2), (3, .int p3)]) hx hb dX1_nextSource_117 hl (k := 4) rfl rfl (by decide) rfl (fun ls hl => ?_)
              refine lv_goto (tgt := 31) hx hb dX1_nextSource_120 (by decide) ?_
              exact ih x4_31 x5_31 (x8_31 + 1) _ _ hfu hR hP hD hS ls (lv_sub hl [3, 4, 0, 5, 6, 7, 8, 9] rfl)
            · rw [if_neg c_15] at hR
              refine lv_iload hx hb dX1_nextSource_96 (lv_at hl 2 rfl) ?_
              refine lv_iconst (v := (-1 : Int32)) hx hb dX1_nextSource_98 (by decide) ?_
              refine lv_icmp_eq (tgt := 109) hx hb dX1_nextSource_99 (by decide) (fun c_16 => ?_) (fun c_16 => ?_)
              · rw [if_pos c_16] at hR
                refine lv_iload hx hb dX1_nextSource_109 (lv_at hl 4 rfl) ?_
                refine lv_istore (lv' := [(4, .int x8_31), (10, .int v14), (9, .int v8), (5, .int x5_31), (8, .int x8_31), (7, .int v4), (0, .ref (aL 0)), (1, .ref (aS 0)), (2, .int p2), (3, .int p3)]) hx hb dX1_nextSource_111 hl (by decide) rfl (fun ls hl => ?_)
                refine lv_iload hx hb dX1_nextSource_113 (lv_at hl 1 rfl) ?_
                refine lv_istore (lv' := [(5, .int v14), (4, .int x8_31), (10, .int v14), (9, .int v8), (8, .int x8_31), (7, .int v4), (0, .ref (aL 0)), (1, .ref (aS 0)), (2, .int p2), (3, .int p3)]) hx hb dX1_nextSource_115 hl (by decide) rfl (fun ls hl => ?_)
                refine lv_iinc (v := (x8_31 + 1)) (lv' := [(8, .int (x8_31 + 1)), (5, .int v14), (4, .int x8_31), (10, .int v14), (9, .int v8), (7, .int v4), (0, .ref (aL 0)), (1, .ref (aS 0)), (2, .int p2), (3, .int p3)]) hx hb dX1_nextSource_117 hl (k := 4) rfl rfl (by decide) rfl (fun ls hl => ?_)
                refine lv_goto (tgt := 31) hx hb dX1_nextSource_120 (by decide) ?_
                exact ih x8_31 v14 (x8_31 + 1) _ _ hfu hR hP hD hS ls (lv_sub hl [2, 1, 0, 5, 6, 7, 8, 9] rfl)
              · rw [if_neg c_16] at hR
                refine lv_iload hx hb dX1_nextSource_102 (lv_at hl 0 rfl) ?_
                refine lv_iload hx hb dX1_nextSource_104 (lv_at hl 3 rfl) ?_
                refine lv_icmp_ge (tgt := 117) hx hb dX1_nextSource_106 (by decide) (fun c_17 => ?_) (fun c_17 => ?_)
                · rw [if_pos c_17] at hR
                  refine lv_iinc (v := (x8_31 + 1)) (lv' := [(8, .int (x8_31 + 1)), (10, .int v14), (9, .int v8), (4, .int x4_31), (5, .int x5_31), (7, .int v4), (0, .ref (aL 0)), (1, .ref (aS 0)), (2, .int p2), (3, .int p3)]) hx hb dX1_nextSource_117 hl (k := 4) rfl rfl (by decide) rfl (fun ls hl => ?_)
                  refine lv_goto (tgt := 31) hx hb dX1_nextSource_120 (by decide) ?_
                  exact ih x4_31 x5_31 (x8_31 + 1) _ _ hfu hR hP hD hS ls (lv_sub hl [3, 4, 0, 5, 6, 7, 8, 9] rfl)
                · rw [if_neg c_17] at hR
                  refine lv_iload hx hb dX1_nextSource_109 (lv_at hl 4 rfl) ?_
                  refine lv_istore (lv' := [(4, .int x8_31), (10, .int v14), (9, .int v8), (5, .int x5_31), (8, .int x8_31), (7, .int v4), (0, .ref (aL 0)), (1, .ref (aS 0)), (2, .int p2), (3, .int p3)]) hx hb dX1_nextSource_111 hl (by decide) rfl (fun ls hl => ?_)
                  refine lv_iload hx hb dX1_nextSource_113 (lv_at hl 1 rfl) ?_
                  refine lv_istore (lv' := [(5, .int v14), (4, .int x8_31), (10, .int v14), (9, .int v8), (8, .int x8_31), (7, .int v4), (0, .ref (aL 0)), (1, .ref (aS 0)), (2, .int p2), (3, .int p3)]) hx hb dX1_nextSource_115 hl (by decide) rfl (fun ls hl => ?_)
                  refine lv_iinc (v := (x8_31 + 1)) (lv' := [(8, .int (x8_31 + 1)), (5, .int v14), (4, .int x8_31), (10, .int v14), (9, .int v8), (7, .int v4), (0, .ref (aL 0)), (1, .ref (aS 0)), (2, .int p2), (3, .int p3)]) hx hb dX1_nextSource_117 hl (k := 4) rfl rfl (by decide) rfl (fun ls hl => ?_)
                  refine lv_goto (tgt := 31) hx hb dX1_nextSource_120 (by decide) ?_
                  exact ih x8_31 v14 (x8_31 + 1) _ _ hfu hR hP hD hS ls (lv_sub hl [2, 1, 0, 5, 6, 7, 8, 9] rfl)
  refine LOOP31 (fun x4_31 => x4_31) (fun x4_31 H3 locs hR hP hD hS ls hl => ?_) (fuelN v2 v4) (-1 : Int32) (0 : Int32) v2 _ _ (fuelE _ _) hR hP hD hS ls (lv_sub hl [4, 3, 0, 1, 5, 6, 7, 8] rfl)
  try dsimp only at hR
  refine lv_iload hx hb dX1_nextSource_123 (lv_at hl 0 rfl) ?_
  exact W.iret (v := x4_31) hx hb hr (fun t ht hW => ⟨⟨x4_31, (), rfl, hR, trivial⟩, hS.F ht⟩) hS.2.2 dX1_nextSource_125
abbrev rm_X1_pairServings : Room := { frames := 2, cells := 0, slots := 0, locals := 51 }
abbrev q_X1_pairServings (dC : Nat → ClassId) (dI : Nat → Nat → Nat) (cI cZ cS : ClassId) (aL : Nat → Nat) (aS : Nat → Nat) (S : Pic) (res : Int32 × Pic) (A : Nat → Prop) : Array Value → State → Outcome → State → Prop := va_Qi (fun (r : Int32) (u : Pic) => (r, u) = res ∧ narrow .boolean (.int r) = .int r) (fun u t => va_P (dC, dI) vwCl (wLo cI aL u ++ (wSt cI aS S)) t.heap) A
set_option maxHeartbeats 4000000 in
set_option maxRecDepth 100000 in
theorem met_X1_pairServings (l : Launch) (dC : Nat → ClassId) (dI : Nat → Nat → Nat) (cI cZ cS : ClassId) (aL : Nat → Nat) (aS : Nat → Nat) (Y : Pic) (S : Pic) (sz : Nat) (p2 : Int32) : Met l yX1_pairServings wsX1_pairServings rm_X1_pairServings (va_Pc [.ref (aL 0), .ref (aS 0), .int p2] (pW (dC, dI) (tyS cI cZ cS) (wLo cI aL Y ++ (wSt cI aS S)) sz)) (q_X1_pairServings dC dI cI cZ cS aL aS S (f1_pairServings Y S p2) (va_A (wLo cI aL Y ++ (wSt cI aS S)) sz)) 0 0 (va_A (wLo cI aL Y ++ (wSt cI aS S)) sz) := by
  refine Met.ofW (cc := cX1_pairServings) (maxL := 8) (ret := (some .boolean)) (by decide) rfl ?_
  intro p e s m args below meth c s₁ B hml hv
  obtain ⟨rfl, hsz, hP, hK, hD0, hN⟩ := hv
  have hx := B.exec
  have hb := B.bytes
  have hr := B.returns
  have hts := atoms_spec (ws := wsX1_pairServings) B.pre
  have hown : s.vm.findClass RX1 = some m.cls := findClass_of_methodNamed B.named
  have hlocks := B.notSynchronized
  subst hsz
  have hD := hD0.self (sz := s.heap.size)
  generalize hAe : va_A (wLo cI aL Y ++ (wSt cI aS S)) s.heap.size = A at hD ⊢
  have hA : ∀ q : Nat, s.heap.size ≤ q → A q := fun q h => by rw [← hAe]; exact Or.inr h
  have hS : va_S A s.heap s.heap [] := va_S.rf
  have hP : va_P (dC, dI) vwCl (wLo cI aL Y ++ (wSt cI aS S)) s.heap := hP
  generalize hR : f1_pairServings Y S p2 = res
  rw [f1_pairServings] at hR
  have hin5 : ∀ w ∈ wsX50, w ∈ wsX1_pairServings := by decide +kernel
  have hin1 : ∀ w ∈ wsX10, w ∈ wsX1_pairServings := by decide +kernel
  have hl := lv_entry ([.ref (aL 0), .ref (aS 0), .int p2]) (n := 8) (Nat.le_of_ble_eq_true rfl)
  rw [lg_entry_eq]
  generalize (lg_sl ([.ref (aL 0), .ref (aS 0), .int p2]) ++ List.replicate (8 - (lg_sl ([.ref (aL 0), .ref (aS 0), .int p2])).length) Slot.unset).toArray = ls at hl ⊢
  have hl : lv_has ls 8 [(0, .ref (aL 0)), (1, .ref (aS 0)), (2, .int p2)] := hl
  refine lv_aload_n hx hb dX1_pairServings_0 rfl (lv_at hl 1 rfl) ?_
  refine va_get (D := (dC, dI)) (ci := 5) (v := .ref (aS 1)) (C := RX5) (T := TX5) (N := 12) hx hb hts hin5 hown hK hP 3 rfl rfl 1 (by decide) (hw_ hts 1 rfl) (fun _ h9 => h9) rfl dX1_pairServings_1 ?_
  refine lv_iload_n hx hb dX1_pairServings_4 rfl (lv_at hl 2 rfl) ?_
  refine va_calli (va_runSN (As := [.ref (aS 1), .int p2]) (rest := []) ⟨hx, hb, hml, hown, hts⟩ (met_X6_at l dC dI cI cZ cS (aS 1) 12 (by decide) (S 1) s.heap.size p2) ⟨va_cnB 2 hts ggX1_pairServings_X6_at rfl rfl rfl (hN_5 hN) (hw_ hts 6 rfl) (by decide +kernel) ⟨Nat.le_of_ble_eq_true rfl, Nat.le_of_ble_eq_true rfl⟩, (hw_ hts 5 rfl), trivial⟩ (pS (wc := [((aS 1), .inl (cI, 12, .inl (S 1)))]) hK hP hD hN [4] rfl (by decide)) rfl rfl hl.1 rfl (lv_room (Nat.le_of_ble_eq_true rfl)) dX1_pairServings_5 ⟨Nat.zero_le _, Nat.zero_le _⟩) hS (fun q _ h => a0_in hS hA q h) (a0_in hS hA) (fun r1 u t H1 locs ht hvm hw hB hz1 hk1 hS => ?_)
  subst hw
  have hP := rdk hP hk1
  refine lv_topi (fun v2 hv2 => ?_)
  have hR := bd_n hv2 hR
  refine lv_istore_n (lv' := [(3, .int v2), (0, .ref (aL 0)), (1, .ref (aS 0)), (2, .int p2)]) hx hb dX1_pairServings_8 rfl hl (by decide) rfl (fun ls hl => ?_)
  refine lv_iconst (v := (1 : Int32)) hx hb dX1_pairServings_9 (by decide) ?_
  refine lv_istore (lv' := [(4, .int (1 : Int32)), (3, .int v2), (0, .ref (aL 0)), (1, .ref (aS 0)), (2, .int p2)]) hx hb dX1_pairServings_10 hl (by decide) rfl (fun ls hl => ?_)
  refine lv_iconst (v := (0 : Int32)) hx hb dX1_pairServings_12 (by decide) ?_
  refine lv_istore (lv' := [(5, .int (0 : Int32)), (4, .int (1 : Int32)), (3, .int v2), (0, .ref (aL 0)), (1, .ref (aS 0)), (2, .int p2)]) hx hb dX1_pairServings_13 hl (by decide) rfl (fun ls hl => ?_)
  have LOOP15 : ∀ (k : Int32 → Pic → (Int32 × Pic)), (∀ (x4_15 : Int32) (Y_15 : Pic) (H2 : Heap) (locs : List Loc), narrow .boolean (.int x4_15) = .int x4_15 → k x4_15 Y_15 = res → va_P (dC, dI) vwCl (wLo cI aL Y_15 ++ (wSt cI aS S)) H2 → va_D A (wLo cI aL Y_15 ++ (wSt cI aS S)) → va_S A s.heap H2 locs → ∀ (ls : Array Slot), lv_has ls 8 [(4, .int x4_15)] → W p l e (headSpec wsX1_pairServings rm_X1_pairServings).room s m ([.ref (aL 0), .ref (aS 0), .int p2] : List Value).toArray below meth c H2 locs 0 0 (MQ below (q_X1_pairServings dC dI cI cZ cS aL aS S res A) ([.ref (aL 0), .ref (aS 0), .int p2] : List Value).toArray s 0 0 A) (F0 m 98 ls [])) → ∀ (nf : Nat) (x4_15 : Int32) (x5_15 : Int32) (Y_15 : Pic) (H2 : Heap) (locs : List Loc), ((28 : Int32)).toInt - (x5_15).toInt ≤ (nf : Int) → narrow .boolean (.int x4_15) = .int x4_15 → f1_pairServings_L15 S p2 v2 nf x4_15 x5_15 Y_15 k = res → va_P (dC, dI) vwCl (wLo cI aL Y_15 ++ (wSt cI aS S)) H2 → va_D A (wLo cI aL Y_15 ++ (wSt cI aS S)) → va_S A s.heap H2 locs → ∀ (ls : Array Slot), lv_has ls 8 [(4, .int x4_15), (5, .int x5_15), (3, .int v2), (0, .ref (aL 0)), (1, .ref (aS 0)), (2, .int p2)] → W p l e (headSpec wsX1_pairServings rm_X1_pairServings).room s m ([.ref (aL 0), .ref (aS 0), .int p2] : List Value).toArray below meth c H2 locs 0 0 (MQ below (q_X1_pairServings dC dI cI cZ cS aL aS S res A) ([.ref (aL 0), .ref (aS 0), .int p2] : List Value).toArray s 0 0 A) (F0 m 15 ls []) := by
    intro k hk nf
    induction nf with
    | zero =>
      intro x4_15 x5_15 Y_15 H2 locs hfu hnb4 hR hP hD hS ls hl
      rw [f1_pairServings_L15] at hR
      refine lv_iload hx hb dX1_pairServings_15 (lv_at hl 1 rfl) ?_
      refine lv_bipush (v := (28 : Int32)) hx hb dX1_pairServings_17 (by decide) ?_
      refine lv_icmp_ge (tgt := 98) hx hb dX1_pairServings_19 (by decide) (fun c_3 => ?_) (fun c_3 => ?_)
      · skip
        exact hk x4_15 Y_15 _ _ hnb4 hR hP hD hS ls (lv_sub hl [0] rfl)
      · exact (fuel0 hfu c_3).elim
    | succ nf ih =>
      intro x4_15 x5_15 Y_15 H2 locs hfu hnb4 hR hP hD hS ls hl
      rw [f1_pairServings_L15] at hR
      refine lv_iload hx hb dX1_pairServings_15 (lv_at hl 1 rfl) ?_
      refine lv_bipush (v := (28 : Int32)) hx hb dX1_pairServings_17 (by decide) ?_
      refine lv_icmp_ge (tgt := 98) hx hb dX1_pairServings_19 (by decide) (fun c_4 => ?_) (fun c_4 => ?_)
      · rw [if_pos c_4] at hR
        exact hk x4_15 Y_15 _ _ hnb4 hR hP hD hS ls (lv_sub hl [0] rfl)
      · rw [if_neg c_4] at hR
        have hfu := fuelS hfu c_4
        refine lv_iload hx hb dX1_pairServings_22 (lv_at hl 1 rfl) ?_
        refine lv_iload_n hx hb dX1_pairServings_24 rfl (lv_at hl 2 rfl) ?_
        refine va_calli (va_runSN (As := [.int x5_15, .int v2]) (rest := []) ⟨hx, hb, hml, hown, hts⟩ (met_X6_cellOf l dC dI cI cZ cS H2.size x5_15 v2) ⟨va_cnB 2 hts ggX1_pairServings_X6_cellOf rfl rfl rfl (hN_6 hN) (hw_ hts 6 rfl) (by decide +kernel) ⟨Nat.le_of_ble_eq_true rfl, Nat.le_of_ble_eq_true rfl⟩, (hw_ hts 8 rfl), trivial⟩ (pS (wc := []) hK hP hD hN [] rfl (by decide)) rfl rfl hl.1 rfl (lv_room (Nat.le_of_ble_eq_true rfl)) dX1_pairServings_25 ⟨Nat.zero_le _, Nat.zero_le _⟩) hS (fun q _ h => a0_in hS hA q h) (a0_in hS hA) (fun r5 u t H3 locs ht hvm hw hB hz1 hk1 hS => ?_)
        subst hw
        have hP := rdk hP hk1
        refine lv_topi (fun v6 hv6 => ?_)
        have hR := bd_n hv6 hR
        refine lv_istore (lv' := [(6, .int v6), (4, .int x4_15), (5, .int x5_15), (3, .int v2), (0, .ref (aL 0)), (1, .ref (aS 0)), (2, .int p2)]) hx hb dX1_pairServings_28 hl (by decide) rfl (fun ls hl => ?_)
        refine lv_aload_n hx hb dX1_pairServings_30 rfl (lv_at hl 5 rfl) ?_
        refine va_get (D := (dC, dI)) (ci := 5) (v := .ref (aS 11)) (C := RX5) (T := TX5) (N := 12) hx hb hts hin5 hown hK hP 3 rfl rfl 11 (by decide) (hw_ hts 2 rfl) (fun _ h9 => h9) rfl dX1_pairServings_31 ?_
        refine lv_iload hx hb dX1_pairServings_34 (lv_at hl 0 rfl) ?_
        refine va_calli (va_runSN (As := [.ref (aS 11), .int v6]) (rest := []) ⟨hx, hb, hml, hown, hts⟩ (met_X6_at l dC dI cI cZ cS (aS 11) 84 (by decide) (S 11) H3.size v6) ⟨va_cnB 2 hts ggX1_pairServings_X6_at rfl rfl rfl (hN_5 hN) (hw_ hts 6 rfl) (by decide +kernel) ⟨Nat.le_of_ble_eq_true rfl, Nat.le_of_ble_eq_true rfl⟩, (hw_ hts 5 rfl), trivial⟩ (pS (wc := [((aS 11), .inl (cI, 84, .inl (S 11)))]) hK hP hD hN [13] rfl (by decide)) rfl rfl hl.1 rfl (lv_room (Nat.le_of_ble_eq_true rfl)) dX1_pairServings_36 ⟨Nat.zero_le _, Nat.zero_le _⟩) hS (fun q _ h => a0_in hS hA q h) (a0_in hS hA) (fun r7 u t H4 locs ht hvm hw hB hz1 hk1 hS => ?_)
        subst hw
        have hP := rdk hP hk1
        refine lv_iload_n hx hb dX1_pairServings_39 rfl (lv_at hl 6 rfl) ?_
        refine lv_icmp_ne (tgt := 92) hx hb dX1_pairServings_40 (by decide) (fun c_8 => ?_) (fun c_8 => ?_)
        · rw [if_neg c_8] at hR
          refine lv_iinc (v := (x5_15 + 1)) (lv' := [(5, .int (x5_15 + 1)), (6, .int v6), (4, .int x4_15), (3, .int v2), (0, .ref (aL 0)), (1, .ref (aS 0)), (2, .int p2)]) hx hb dX1_pairServings_92 hl (k := 2) rfl rfl (by decide) rfl (fun ls hl => ?_)
          refine lv_goto (tgt := 15) hx hb dX1_pairServings_95 (by decide) ?_
          exact ih x4_15 (x5_15 + 1) Y_15 _ _ hfu hnb4 hR hP hD hS ls (lv_sub hl [2, 0, 3, 4, 5, 6] rfl)
        · rw [if_pos c_8] at hR
          refine lv_aload_n hx hb dX1_pairServings_43 rfl (lv_at hl 4 rfl) ?_
          refine lv_aload_n hx hb dX1_pairServings_44 rfl (lv_at hl 5 rfl) ?_
          refine lv_iload_n hx hb dX1_pairServings_45 rfl (lv_at hl 6 rfl) ?_
          refine lv_iload hx hb dX1_pairServings_46 (lv_at hl 2 rfl) ?_
          refine va_calli (va_runV (As := [.ref (aS 0), .int p2, .int x5_15]) (rest := []) ⟨hx, hb, hml, hown, hts⟩ (met_X1_nextSource l dC dI cI cZ cS aL aS Y_15 S H4.size p2 x5_15) (cwV 3 hts gX1_pairServings_X1_nextSource rfl rfl rfl (by decide +kernel) ⟨Nat.le_of_ble_eq_true rfl, Nat.le_of_ble_eq_true rfl⟩) (pV (wc := wLo cI aL Y_15 ++ (wSt cI aS S)) (ci := 1) (q0 := 0) hK hP hD hN [0, 1, 2, 3, 4, 5, 6, 7, 8, 9, 10, 11, 12, 13] rfl (by decide) rfl rfl) rfl rfl hl.1 rfl (lv_room (Nat.le_of_ble_eq_true rfl)) dX1_pairServings_48 ⟨Nat.zero_le _, Nat.zero_le _⟩) hS (fun q _ h => a0_in hS hA q h) (a0_in hS hA) (fun r9 u t H5 locs ht hvm hw hB hz1 hk1 hS => ?_)
          have hR := bd_n hw hR
          have hP := rdk hP hk1
          refine lv_istore (lv' := [(7, .int r9), (6, .int v6), (4, .int x4_15), (5, .int x5_15), (3, .int v2), (0, .ref (aL 0)), (1, .ref (aS 0)), (2, .int p2)]) hx hb dX1_pairServings_51 hl (by decide) rfl (fun ls hl => ?_)
          refine lv_aload_n hx hb dX1_pairServings_53 rfl (lv_at hl 5 rfl) ?_
          refine va_get (D := (dC, dI)) (ci := 1) (v := .ref (aL 1)) (C := RX1) (T := TX1) (N := 2) hx hb hts hin1 hown hK hP 0 rfl rfl 0 (by decide) (hw_ hts 3 rfl) (fun _ h9 => h9) rfl dX1_pairServings_54 ?_
          refine lv_iload hx hb dX1_pairServings_57 (lv_at hl 1 rfl) ?_
          refine lv_iload hx hb dX1_pairServings_59 (lv_at hl 0 rfl) ?_
          have hF := va_free (wc := [((aL 1), .inl (cI, 84, .inl (Y_15 0)))]) hD hS hA [1] rfl
          refine va_callv (va_runSN (As := [.ref (aL 1), .int v6, .int r9]) (rest := []) ⟨hx, hb, hml, hown, hts⟩ (met_X6_put l dC dI cI cZ cS (aL 1) 84 (by decide) (Y_15 0) H5.size v6 r9) ⟨va_cnB 3 hts ggX1_pairServings_X6_put rfl rfl rfl (hN_7 hN) (hw_ hts 6 rfl) (by decide +kernel) ⟨Nat.le_of_ble_eq_true rfl, Nat.le_of_ble_eq_true rfl⟩, (hw_ hts 21 rfl), trivial⟩ (pS (wc := [((aL 1), .inl (cI, 84, .inl (Y_15 0)))]) hK hP hD hN [1] rfl (by decide)) rfl rfl hl.1 rfl (lv_room (Nat.le_of_ble_eq_true rfl)) dX1_pairServings_61 ⟨Nat.zero_le _, Nat.zero_le _⟩) hS (fun q _ h => hF q h) hF (fun  u10 t H6 locs ht hvm hw hB hz1 hk1 hS => ?_)
          try dsimp only at hw hB
          rw [ht] at hB
          subst hw
          have hP := wrk (w2 := wLo cI aL (pset Y_15 0 (f6_put 84 (Y_15 0) v6 r9)) ++ (wSt cI aS S)) hP hD [1] rfl (by decide) hk1 hB rfl rfl
          have hD := D_addr (w1 := wLo cI aL (pset Y_15 0 (f6_put 84 (Y_15 0) v6 r9)) ++ (wSt cI aS S)) hD rfl
          obtain ⟨Yb11, hYb11⟩ : ∃ z : Pic, z = (pset Y_15 0 (f6_put 84 (Y_15 0) v6 r9)) := ⟨_, rfl⟩
          rw [← hYb11] at hP hD
          have hR := bd_n hYb11 hR
          refine lv_aload_n hx hb dX1_pairServings_64 rfl (lv_at hl 5 rfl) ?_
          refine va_get (D := (dC, dI)) (ci := 1) (v := .ref (aL 2)) (C := RX1) (T := TX1) (N := 2) hx hb hts hin1 hown hK hP 0 rfl rfl 1 (by decide) (hw_ hts 4 rfl) (fun _ h9 => h9) rfl dX1_pairServings_65 ?_
          refine lv_iload hx hb dX1_pairServings_68 (lv_at hl 0 rfl) ?_
          refine lv_iconst (v := (1 : Int32)) hx hb dX1_pairServings_70 (by decide) ?_
          have hF := va_free (wc := [((aL 2), .inl (cI, 84, .inl (Yb11 1)))]) hD hS hA [2] rfl
          refine va_callv (va_runSN (As := [.ref (aL 2), .int r9, .int (1 : Int32)]) (rest := []) ⟨hx, hb, hml, hown, hts⟩ (met_X6_put l dC dI cI cZ cS (aL 2) 84 (by decide) (Yb11 1) H6.size r9 (1 : Int32)) ⟨va_cnB 3 hts ggX1_pairServings_X6_put rfl rfl rfl (hN_7 hN) (hw_ hts 6 rfl) (by decide +kernel) ⟨Nat.le_of_ble_eq_true rfl, Nat.le_of_ble_eq_true rfl⟩, (hw_ hts 21 rfl), trivial⟩ (pS (wc := [((aL 2), .inl (cI, 84, .inl (Yb11 1)))]) hK hP hD hN [2] rfl (by decide)) rfl rfl hl.1 rfl (lv_room (Nat.le_of_ble_eq_true rfl)) dX1_pairServings_71 ⟨Nat.zero_le _, Nat.zero_le _⟩) hS (fun q _ h => hF q h) hF (fun  u12 t H7 locs ht hvm hw hB hz1 hk1 hS => ?_)
          try dsimp only at hw hB
          rw [ht] at hB
          subst hw
          have hP := wrk (w2 := wLo cI aL (pset Yb11 1 (f6_put 84 (Yb11 1) r9 (1 : Int32))) ++ (wSt cI aS S)) hP hD [2] rfl (by decide) hk1 hB rfl rfl
          have hD := D_addr (w1 := wLo cI aL (pset Yb11 1 (f6_put 84 (Yb11 1) r9 (1 : Int32))) ++ (wSt cI aS S)) hD rfl
          obtain ⟨Yb13, hYb13⟩ : ∃ z : Pic, z = (pset Yb11 1 (f6_put 84 (Yb11 1) r9 (1 : Int32))) := ⟨_, rfl⟩
          rw [← hYb13] at hP hD
          have hR := bd_n hYb13 hR
          refine lv_iload hx hb dX1_pairServings_74 (lv_at hl 2 rfl) ?_
          refine lv_if_eq (tgt := 89) hx hb dX1_pairServings_76 (by decide) (fun c_14 => ?_) (fun c_14 => ?_)
          · rw [if_pos c_14] at hR
            refine lv_iconst (v := (0 : Int32)) hx hb dX1_pairServings_89 (by decide) ?_
            refine lv_istore (lv' := [(4, .int (0 : Int32)), (7, .int r9), (6, .int v6), (5, .int x5_15), (3, .int v2), (0, .ref (aL 0)), (1, .ref (aS 0)), (2, .int p2)]) hx hb dX1_pairServings_90 hl (by decide) rfl (fun ls hl => ?_)
            refine lv_iinc (v := (x5_15 + 1)) (lv' := [(5, .int (x5_15 + 1)), (4, .int (0 : Int32)), (7, .int r9), (6, .int v6), (3, .int v2), (0, .ref (aL 0)), (1, .ref (aS 0)), (2, .int p2)]) hx hb dX1_pairServings_92 hl (k := 3) rfl rfl (by decide) rfl (fun ls hl => ?_)
            refine lv_goto (tgt := 15) hx hb dX1_pairServings_95 (by decide) ?_
            exact ih (0 : Int32) (x5_15 + 1) Yb13 _ _ hfu rfl hR hP hD hS ls (lv_sub hl [1, 0, 4, 5, 6, 7] rfl)
          · rw [if_neg c_14] at hR
            refine lv_iload hx hb dX1_pairServings_79 (lv_at hl 0 rfl) ?_
            refine lv_iconst (v := (-1 : Int32)) hx hb dX1_pairServings_81 (by decide) ?_
            refine lv_icmp_eq (tgt := 89) hx hb dX1_pairServings_82 (by decide) (fun c_15 => ?_) (fun c_15 => ?_)
            · rw [if_pos c_15] at hR
              refine lv_iconst (v := (0 : Int32)) hx hb dX1_pairServings_89 (by decide) ?_
              refine lv_istore (lv' := [(4, .int (0 : Int32)), (7, .int r9), (6, .int v6), (5, .int x5_15), (3, .int v2), (0, .ref (aL 0)), (1, .ref (aS 0)), (2, .int p2)]) hx hb dX1_pairServings_90 hl (by decide) rfl (fun ls hl => ?_)
              refine lv_iinc (v := (x5_15 + 1)) (lv' := [(5, .int (x5_15 + 1)), (4, .int (0 : Int32)), (7, .int r9), (6, .int v6), (3, .int v2), (0, .ref (aL 0)), (1, .ref (aS 0)), (2, .int p2)]) hx hb dX1_pairServings_92 hl (k := 3) rfl rfl (by decide) rfl (fun ls hl => ?_)
              refine lv_goto (tgt := 15) hx hb dX1_pairServings_95 (by decide) ?_
              exact ih (0 : Int32) (x5_15 + 1) Yb13 _ _ hfu rfl hR hP hD hS ls (lv_sub hl [1, 0, 4, 5, 6, 7] rfl)
            · rw [if_neg c_15] at hR
              refine lv_iconst (v := (1 : Int32)) hx hb dX1_pairServings_85 (by decide) ?_
              refine lv_goto (tgt := 90) hx hb dX1_pairServings_86 (by decide) ?_
              refine lv_istore (lv' := [(4, .int (1 : Int32)), (7, .int r9), (6, .int v6), (5, .int x5_15), (3, .int v2), (0, .ref (aL 0)), (1, .ref (aS 0)), (2, .int p2)]) hx hb dX1_pairServings_90 hl (by decide) rfl (fun ls hl => ?_)
              refine lv_iinc (v := (x5_15 + 1)) (lv' := [(5, .int (x5_15 + 1)), (4, .int (1 : Int32)), (7, .int r9), (6, .int v6), (3, .int v2), (0, .ref (aL 0)), (1, .ref (aS 0)), (2, .int p2)]) hx hb dX1_pairServings_92 hl (k := 3) rfl rfl (by decide) rfl (fun ls hl => ?_)
              refine lv_goto (tgt := 15) hx hb dX1_pairServings_95 (by decide) ?_
              exact ih (1 : Int32) (x5_15 + 1) Yb13 _ _ hfu rfl hR hP hD hS ls (lv_sub hl [1, 0, 4, 5, 6, 7] rfl)
  refine LOOP15 (fun x4_15 Y_15 => (x4_15, Y_15)) (fun x4_15 Y_15 H2 locs hnb4 hR hP hD hS ls hl => ?_) 28 (1 : Int32) (0 : Int32) Y _ _ (by decide) rfl hR hP hD hS ls (lv_sub hl [1, 0, 2, 3, 4, 5] rfl)
  try dsimp only at hR
  refine lv_iload hx hb dX1_pairServings_98 (lv_at hl 0 rfl) ?_
  exact W.zret (v := x4_15) (ty := .boolean) hx hb hr hnb4 (fun t ht hW => ⟨⟨x4_15, Y_15, rfl, ⟨hR, hnb4⟩, P_at ht hP⟩, hS.F ht⟩) hS.2.2 dX1_pairServings_100
abbrev rm_X1_pairAll : Room := { frames := 3, cells := 0, slots := 0, locals := 78 }
abbrev q_X1_pairAll (dC : Nat → ClassId) (dI : Nat → Nat → Nat) (cI cZ cS : ClassId) (aL : Nat → Nat) (aS : Nat → Nat) (S : Pic) (res : Int32 × Pic) (A : Nat → Prop) : Array Value → State → Outcome → State → Prop := va_Qi (fun (r : Int32) (u : Pic) => (r, u) = res ∧ narrow .boolean (.int r) = .int r) (fun u t => va_P (dC, dI) vwCl (wLo cI aL u ++ (wSt cI aS S)) t.heap) A
set_option maxHeartbeats 4000000 in
set_option maxRecDepth 100000 in
theorem met_X1_pairAll (l : Launch) (dC : Nat → ClassId) (dI : Nat → Nat → Nat) (cI cZ cS : ClassId) (aL : Nat → Nat) (aS : Nat → Nat) (Y : Pic) (S : Pic) (sz : Nat)  : Met l yX1_pairAll wsX1_pairAll rm_X1_pairAll (va_Pc [.ref (aL 0), .ref (aS 0)] (pW (dC, dI) (tyS cI cZ cS) (wLo cI aL Y ++ (wSt cI aS S)) sz)) (q_X1_pairAll dC dI cI cZ cS aL aS S (f1_pairAll Y S) (va_A (wLo cI aL Y ++ (wSt cI aS S)) sz)) 0 0 (va_A (wLo cI aL Y ++ (wSt cI aS S)) sz) := by
  refine Met.ofW (cc := cX1_pairAll) (maxL := 4) (ret := (some .boolean)) (by decide) rfl ?_
  intro p e s m args below meth c s₁ B hml hv
  obtain ⟨rfl, hsz, hP, hK, hD0, hN⟩ := hv
  have hx := B.exec
  have hb := B.bytes
  have hr := B.returns
  have hts := atoms_spec (ws := wsX1_pairAll) B.pre
  have hown : s.vm.findClass RX1 = some m.cls := findClass_of_methodNamed B.named
  have hlocks := B.notSynchronized
  subst hsz
  have hD := hD0.self (sz := s.heap.size)
  generalize hAe : va_A (wLo cI aL Y ++ (wSt cI aS S)) s.heap.size = A at hD ⊢
  have hA : ∀ q : Nat, s.heap.size ≤ q → A q := fun q h => by rw [← hAe]; exact Or.inr h
  have hS : va_S A s.heap s.heap [] := va_S.rf
  have hP : va_P (dC, dI) vwCl (wLo cI aL Y ++ (wSt cI aS S)) s.heap := hP
  generalize hR : f1_pairAll Y S = res
  rw [f1_pairAll] at hR
  have hin5 : ∀ w ∈ wsX50, w ∈ wsX1_pairAll := by decide +kernel
  have hl := lv_entry ([.ref (aL 0), .ref (aS 0)]) (n := 4) (Nat.le_of_ble_eq_true rfl)
  rw [lg_entry_eq]
  generalize (lg_sl ([.ref (aL 0), .ref (aS 0)]) ++ List.replicate (4 - (lg_sl ([.ref (aL 0), .ref (aS 0)])).length) Slot.unset).toArray = ls at hl ⊢
  have hl : lv_has ls 4 [(0, .ref (aL 0)), (1, .ref (aS 0))] := hl
  refine lv_aload_n hx hb dX1_pairAll_0 rfl (lv_at hl 0 rfl) ?_
  have hF := va_free (wc := wLo cI aL Y) hD hS hA [0, 1, 2] rfl
  refine va_callv (va_runV (As := []) (rest := []) ⟨hx, hb, hml, hown, hts⟩ (met_X1_forget l dC dI cI cZ cS aL Y s.heap.size) (cwV 0 hts gX1_pairAll_X1_forget rfl rfl rfl (by decide +kernel) ⟨Nat.le_of_ble_eq_true rfl, Nat.le_of_ble_eq_true rfl⟩) (pV (wc := wLo cI aL Y) (ci := 1) (q0 := 0) hK hP hD hN [0, 1, 2] rfl (by decide) rfl rfl) rfl rfl hl.1 rfl (lv_room (Nat.le_of_ble_eq_true rfl)) dX1_pairAll_1 ⟨Nat.zero_le _, Nat.zero_le _⟩) hS (fun q _ h => hF q h) hF (fun  u1 t H1 locs ht hvm hw hB hz1 hk1 hS => ?_)
  try dsimp only at hw hB
  rw [ht] at hB
  have hR := bd_n hw hR
  have hP := wrk (w2 := wLo cI aL u1 ++ (wSt cI aS S)) hP hD [0, 1, 2] rfl (by decide) hk1 hB rfl rfl
  have hD := D_addr (w1 := wLo cI aL u1 ++ (wSt cI aS S)) hD rfl
  refine lv_iconst (v := (1 : Int32)) hx hb dX1_pairAll_4 (by decide) ?_
  refine lv_istore_n (lv' := [(2, .int (1 : Int32)), (0, .ref (aL 0)), (1, .ref (aS 0))]) hx hb dX1_pairAll_5 rfl hl (by decide) rfl (fun ls hl => ?_)
  refine lv_iconst (v := (0 : Int32)) hx hb dX1_pairAll_6 (by decide) ?_
  refine lv_istore_n (lv' := [(3, .int (0 : Int32)), (2, .int (1 : Int32)), (0, .ref (aL 0)), (1, .ref (aS 0))]) hx hb dX1_pairAll_7 rfl hl (by decide) rfl (fun ls hl => ?_)
  have LOOP8 : ∀ (k : Int32 → Pic → (Int32 × Pic)), (∀ (x2_8 : Int32) (Y_8 : Pic) (H2 : Heap) (locs : List Loc), narrow .boolean (.int x2_8) = .int x2_8 → k x2_8 Y_8 = res → va_P (dC, dI) vwCl (wLo cI aL Y_8 ++ (wSt cI aS S)) H2 → va_D A (wLo cI aL Y_8 ++ (wSt cI aS S)) → va_S A s.heap H2 locs → ∀ (ls : Array Slot), lv_has ls 4 [(2, .int x2_8)] → W p l e (headSpec wsX1_pairAll rm_X1_pairAll).room s m ([.ref (aL 0), .ref (aS 0)] : List Value).toArray below meth c H2 locs 0 0 (MQ below (q_X1_pairAll dC dI cI cZ cS aL aS S res A) ([.ref (aL 0), .ref (aS 0)] : List Value).toArray s 0 0 A) (F0 m 41 ls [])) → ∀ (nf : Nat) (x2_8 : Int32) (x3_8 : Int32) (Y_8 : Pic) (H2 : Heap) (locs : List Loc), (((S 0) 0)).toInt - (x3_8).toInt ≤ (nf : Int) → narrow .boolean (.int x2_8) = .int x2_8 → f1_pairAll_L8 S nf x2_8 x3_8 Y_8 k = res → va_P (dC, dI) vwCl (wLo cI aL Y_8 ++ (wSt cI aS S)) H2 → va_D A (wLo cI aL Y_8 ++ (wSt cI aS S)) → va_S A s.heap H2 locs → ∀ (ls : Array Slot), lv_has ls 4 [(2, .int x2_8), (3, .int x3_8), (0, .ref (aL 0)), (1, .ref (aS 0))] → W p l e (headSpec wsX1_pairAll rm_X1_pairAll).room s m ([.ref (aL 0), .ref (aS 0)] : List Value).toArray below meth c H2 locs 0 0 (MQ below (q_X1_pairAll dC dI cI cZ cS aL aS S res A) ([.ref (aL 0), .ref (aS 0)] : List Value).toArray s 0 0 A) (F0 m 8 ls []) := by
    intro k hk nf
    induction nf with
    | zero =>
      intro x2_8 x3_8 Y_8 H2 locs hfu hnb2 hR hP hD hS ls hl
      rw [f1_pairAll_L8] at hR
      refine lv_iload_n hx hb dX1_pairAll_8 rfl (lv_at hl 1 rfl) ?_
      refine lv_aload_n hx hb dX1_pairAll_9 rfl (lv_at hl 3 rfl) ?_
      refine va_get (D := (dC, dI)) (ci := 5) (v := .int ((S 0) 0)) (C := RX5) (T := TX5) (N := 12) hx hb hts hin5 hown hK hP 3 rfl rfl 0 (by decide) (hw_ hts 1 rfl) (fun _ h9 => h9) rfl dX1_pairAll_10 ?_
      refine lv_icmp_ge (tgt := 41) hx hb dX1_pairAll_13 (by decide) (fun c_2 => ?_) (fun c_2 => ?_)
      · skip
        exact hk x2_8 Y_8 _ _ hnb2 hR hP hD hS ls (lv_sub hl [0] rfl)
      · exact (fuel0 hfu c_2).elim
    | succ nf ih =>
      intro x2_8 x3_8 Y_8 H2 locs hfu hnb2 hR hP hD hS ls hl
      rw [f1_pairAll_L8] at hR
      refine lv_iload_n hx hb dX1_pairAll_8 rfl (lv_at hl 1 rfl) ?_
      refine lv_aload_n hx hb dX1_pairAll_9 rfl (lv_at hl 3 rfl) ?_
      refine va_get (D := (dC, dI)) (ci := 5) (v := .int ((S 0) 0)) (C := RX5) (T := TX5) (N := 12) hx hb hts hin5 hown hK hP 3 rfl rfl 0 (by decide) (hw_ hts 1 rfl) (fun _ h9 => h9) rfl dX1_pairAll_10 ?_
      refine lv_icmp_ge (tgt := 41) hx hb dX1_pairAll_13 (by decide) (fun c_3 => ?_) (fun c_3 => ?_)
      · rw [if_pos c_3] at hR
        exact hk x2_8 Y_8 _ _ hnb2 hR hP hD hS ls (lv_sub hl [0] rfl)
      · rw [if_neg c_3] at hR
        have hfu := fuelS hfu c_3
        refine lv_aload_n hx hb dX1_pairAll_16 rfl (lv_at hl 3 rfl) ?_
        refine lv_iload_n hx hb dX1_pairAll_17 rfl (lv_at hl 1 rfl) ?_
        refine va_calli (va_runV (As := [.int x3_8]) (rest := []) ⟨hx, hb, hml, hown, hts⟩ (met_X5_isLeftover l dC dI cI cZ cS aS S H2.size x3_8) (cwV 1 hts gX1_pairAll_X5_isLeftover rfl rfl rfl (by decide +kernel) ⟨Nat.le_of_ble_eq_true rfl, Nat.le_of_ble_eq_true rfl⟩) (pV (wc := wSt cI aS S) (ci := 5) (q0 := 3) hK hP hD hN [3, 4, 5, 6, 7, 8, 9, 10, 11, 12, 13] rfl (by decide) rfl rfl) rfl rfl hl.1 rfl (lv_room (Nat.le_of_ble_eq_true rfl)) dX1_pairAll_18 ⟨Nat.zero_le _, Nat.zero_le _⟩) hS (fun q _ h => a0_in hS hA q h) (a0_in hS hA) (fun r4 u t H3 locs ht hvm hw hB hz1 hk1 hS => ?_)
        obtain ⟨hw, nb5⟩ := hw
        have hR := bd_n hw hR
        have hP := rdk hP hk1
        refine lv_if_eq (tgt := 35) hx hb dX1_pairAll_21 (by decide) (fun c_6 => ?_) (fun c_6 => ?_)
        · rw [if_pos c_6] at hR
          refine lv_iinc (v := (x3_8 + 1)) (lv' := [(3, .int (x3_8 + 1)), (2, .int x2_8), (0, .ref (aL 0)), (1, .ref (aS 0))]) hx hb dX1_pairAll_35 hl (k := 1) rfl rfl (by decide) rfl (fun ls hl => ?_)
          refine lv_goto (tgt := 8) hx hb dX1_pairAll_38 (by decide) ?_
          exact ih x2_8 (x3_8 + 1) Y_8 _ _ hfu hnb2 hR hP hD hS ls (lv_sub hl [1, 0, 2, 3] rfl)
        · rw [if_neg c_6] at hR
          refine lv_aload_n hx hb dX1_pairAll_24 rfl (lv_at hl 2 rfl) ?_
          refine lv_aload_n hx hb dX1_pairAll_25 rfl (lv_at hl 3 rfl) ?_
          refine lv_iload_n hx hb dX1_pairAll_26 rfl (lv_at hl 1 rfl) ?_
          have hF := va_free (wc := wLo cI aL Y_8 ++ (wSt cI aS S)) hD hS hA [0, 1, 2, 3, 4, 5, 6, 7, 8, 9, 10, 11, 12, 13] rfl
          refine va_calli (va_runV (As := [.ref (aS 0), .int x3_8]) (rest := []) ⟨hx, hb, hml, hown, hts⟩ (met_X1_pairServings l dC dI cI cZ cS aL aS Y_8 S H3.size x3_8) (cwV 2 hts gX1_pairAll_X1_pairServings rfl rfl rfl (by decide +kernel) ⟨Nat.le_of_ble_eq_true rfl, Nat.le_of_ble_eq_true rfl⟩) (pV (wc := wLo cI aL Y_8 ++ (wSt cI aS S)) (ci := 1) (q0 := 0) hK hP hD hN [0, 1, 2, 3, 4, 5, 6, 7, 8, 9, 10, 11, 12, 13] rfl (by decide) rfl rfl) rfl rfl hl.1 rfl (lv_room (Nat.le_of_ble_eq_true rfl)) dX1_pairAll_27 ⟨Nat.zero_le _, Nat.zero_le _⟩) hS (fun q _ h => hF q h) hF (fun r7 u8 t H4 locs ht hvm hw hB hz1 hk1 hS => ?_)
          obtain ⟨hw, nb9⟩ := hw
          try dsimp only at hw hB
          rw [ht] at hB
          have hR := bd2_n hw hR
          have hP := wrk (w2 := wLo cI aL u8 ++ (wSt cI aS S)) hP hD [0, 1, 2, 3, 4, 5, 6, 7, 8, 9, 10, 11, 12, 13] rfl (by decide) hk1 hB rfl rfl
          have hD := D_addr (w1 := wLo cI aL u8 ++ (wSt cI aS S)) hD rfl
          refine lv_if_ne (tgt := 35) hx hb dX1_pairAll_30 (by decide) (fun c_10 => ?_) (fun c_10 => ?_)
          · rw [if_neg c_10] at hR
            refine lv_iinc (v := (x3_8 + 1)) (lv' := [(3, .int (x3_8 + 1)), (2, .int x2_8), (0, .ref (aL 0)), (1, .ref (aS 0))]) hx hb dX1_pairAll_35 hl (k := 1) rfl rfl (by decide) rfl (fun ls hl => ?_)
            refine lv_goto (tgt := 8) hx hb dX1_pairAll_38 (by decide) ?_
            exact ih x2_8 (x3_8 + 1) u8 _ _ hfu hnb2 hR hP hD hS ls (lv_sub hl [1, 0, 2, 3] rfl)
          · rw [if_pos c_10] at hR
            refine lv_iconst (v := (0 : Int32)) hx hb dX1_pairAll_33 (by decide) ?_
            refine lv_istore_n (lv' := [(2, .int (0 : Int32)), (3, .int x3_8), (0, .ref (aL 0)), (1, .ref (aS 0))]) hx hb dX1_pairAll_34 rfl hl (by decide) rfl (fun ls hl => ?_)
            refine lv_iinc (v := (x3_8 + 1)) (lv' := [(3, .int (x3_8 + 1)), (2, .int (0 : Int32)), (0, .ref (aL 0)), (1, .ref (aS 0))]) hx hb dX1_pairAll_35 hl (k := 1) rfl rfl (by decide) rfl (fun ls hl => ?_)
            refine lv_goto (tgt := 8) hx hb dX1_pairAll_38 (by decide) ?_
            exact ih (0 : Int32) (x3_8 + 1) u8 _ _ hfu rfl hR hP hD hS ls (lv_sub hl [1, 0, 2, 3] rfl)
  refine LOOP8 (fun x2_8 Y_8 => (x2_8, Y_8)) (fun x2_8 Y_8 H2 locs hnb2 hR hP hD hS ls hl => ?_) (fuelN (0 : Int32) ((S 0) 0)) (1 : Int32) (0 : Int32) u1 _ _ (fuelE _ _) rfl hR hP hD hS ls (lv_sub hl [1, 0, 2, 3] rfl)
  try dsimp only at hR
  refine lv_iload_n hx hb dX1_pairAll_41 rfl (lv_at hl 0 rfl) ?_
  exact W.zret (v := x2_8) (ty := .boolean) hx hb hr hnb2 (fun t ht hW => ⟨⟨x2_8, Y_8, rfl, ⟨hR, hnb2⟩, P_at ht hP⟩, hS.F ht⟩) hS.2.2 dX1_pairAll_42
abbrev rm_X1_areSound : Room := { frames := 4, cells := 0, slots := 0, locals := 101 }
abbrev q_X1_areSound (dC : Nat → ClassId) (dI : Nat → Nat → Nat) (cI cZ cS : ClassId) (aL : Nat → Nat) (aS : Nat → Nat) (S : Pic) (res : Int32 × Pic) (A : Nat → Prop) : Array Value → State → Outcome → State → Prop := va_Qi (fun (r : Int32) (u : Pic) => (r, u) = res ∧ narrow .boolean (.int r) = .int r) (fun u t => va_P (dC, dI) vwCl (wLo cI aL u ++ (wSt cI aS S)) t.heap) A
set_option maxHeartbeats 4000000 in
set_option maxRecDepth 100000 in
theorem met_X1_areSound (l : Launch) (dC : Nat → ClassId) (dI : Nat → Nat → Nat) (cI cZ cS : ClassId) (aL : Nat → Nat) (aS : Nat → Nat) (Y : Pic) (S : Pic) (sz : Nat)  : Met l yX1_areSound wsX1_areSound rm_X1_areSound (va_Pc [.ref (aL 0), .ref (aS 0)] (pW (dC, dI) (tyS cI cZ cS) (wLo cI aL Y ++ (wSt cI aS S)) sz)) (q_X1_areSound dC dI cI cZ cS aL aS S (f1_areSound Y S) (va_A (wLo cI aL Y ++ (wSt cI aS S)) sz)) 0 0 (va_A (wLo cI aL Y ++ (wSt cI aS S)) sz) := by
  refine Met.ofW (cc := cX1_areSound) (maxL := 2) (ret := (some .boolean)) (by decide) rfl ?_
  intro p e s m args below meth c s₁ B hml hv
  obtain ⟨rfl, hsz, hP, hK, hD0, hN⟩ := hv
  have hx := B.exec
  have hb := B.bytes
  have hr := B.returns
  have hts := atoms_spec (ws := wsX1_areSound) B.pre
  have hown : s.vm.findClass RX1 = some m.cls := findClass_of_methodNamed B.named
  have hlocks := B.notSynchronized
  subst hsz
  have hD := hD0.self (sz := s.heap.size)
  generalize hAe : va_A (wLo cI aL Y ++ (wSt cI aS S)) s.heap.size = A at hD ⊢
  have hA : ∀ q : Nat, s.heap.size ≤ q → A q := fun q h => by rw [← hAe]; exact Or.inr h
  have hS : va_S A s.heap s.heap [] := va_S.rf
  have hP : va_P (dC, dI) vwCl (wLo cI aL Y ++ (wSt cI aS S)) s.heap := hP
  generalize hR : f1_areSound Y S = res
  rw [f1_areSound] at hR
  have hl := lv_entry ([.ref (aL 0), .ref (aS 0)]) (n := 2) (Nat.le_of_ble_eq_true rfl)
  rw [lg_entry_eq]
  generalize (lg_sl ([.ref (aL 0), .ref (aS 0)]) ++ List.replicate (2 - (lg_sl ([.ref (aL 0), .ref (aS 0)])).length) Slot.unset).toArray = ls at hl ⊢
  have hl : lv_has ls 2 [(0, .ref (aL 0)), (1, .ref (aS 0))] := hl
  refine lv_aload_n hx hb dX1_areSound_0 rfl (lv_at hl 0 rfl) ?_
  refine lv_aload_n hx hb dX1_areSound_1 rfl (lv_at hl 1 rfl) ?_
  have hF := va_free (wc := wLo cI aL Y ++ (wSt cI aS S)) hD hS hA [0, 1, 2, 3, 4, 5, 6, 7, 8, 9, 10, 11, 12, 13] rfl
  refine va_calli (va_runV (As := [.ref (aS 0)]) (rest := []) ⟨hx, hb, hml, hown, hts⟩ (met_X1_pairAll l dC dI cI cZ cS aL aS Y S s.heap.size) (cwV 1 hts gX1_areSound_X1_pairAll rfl rfl rfl (by decide +kernel) ⟨Nat.le_of_ble_eq_true rfl, Nat.le_of_ble_eq_true rfl⟩) (pV (wc := wLo cI aL Y ++ (wSt cI aS S)) (ci := 1) (q0 := 0) hK hP hD hN [0, 1, 2, 3, 4, 5, 6, 7, 8, 9, 10, 11, 12, 13] rfl (by decide) rfl rfl) rfl rfl hl.1 rfl (lv_room (Nat.le_of_ble_eq_true rfl)) dX1_areSound_2 ⟨Nat.zero_le _, Nat.zero_le _⟩) hS (fun q _ h => hF q h) hF (fun r1 u2 t H1 locs ht hvm hw hB hz1 hk1 hS => ?_)
  obtain ⟨hw, nb3⟩ := hw
  try dsimp only at hw hB
  rw [ht] at hB
  have hR := bd2_n hw hR
  have hP := wrk (w2 := wLo cI aL u2 ++ (wSt cI aS S)) hP hD [0, 1, 2, 3, 4, 5, 6, 7, 8, 9, 10, 11, 12, 13] rfl (by decide) hk1 hB rfl rfl
  have hD := D_addr (w1 := wLo cI aL u2 ++ (wSt cI aS S)) hD rfl
  exact W.zret (v := r1) (ty := .boolean) hx hb hr nb3 (fun t ht hW => ⟨⟨r1, u2, rfl, ⟨hR, nb3⟩, P_at ht hP⟩, hS.F ht⟩) hS.2.2 dX1_areSound_5
abbrev rm_X1_staySoundWith : Room := { frames := 3, cells := 0, slots := 0, locals := 78 }
abbrev q_X1_staySoundWith (dC : Nat → ClassId) (dI : Nat → Nat → Nat) (cI cZ cS : ClassId) (aL : Nat → Nat) (aS : Nat → Nat)  (res : Int32 × Pic × Pic) (A : Nat → Prop) : Array Value → State → Outcome → State → Prop := va_Qi (fun (r : Int32) (u : Pic × Pic) => (r, u) = res ∧ narrow .boolean (.int r) = .int r) (fun u t => va_P (dC, dI) vwCl (wLo cI aL u.1 ++ (wSt cI aS u.2)) t.heap) A
set_option maxHeartbeats 4000000 in
set_option maxRecDepth 100000 in
theorem met_X1_staySoundWith (l : Launch) (dC : Nat → ClassId) (dI : Nat → Nat → Nat) (cI cZ cS : ClassId) (aL : Nat → Nat) (aS : Nat → Nat) (Y : Pic) (S : Pic) (sz : Nat) (p2 : Int32) (p3 : Int32) : Met l yX1_staySoundWith wsX1_staySoundWith rm_X1_staySoundWith (va_Pc [.ref (aL 0), .ref (aS 0), .int p2, .int p3] (pW (dC, dI) (tyS cI cZ cS) (wLo cI aL Y ++ (wSt cI aS S)) sz)) (q_X1_staySoundWith dC dI cI cZ cS aL aS (f1_staySoundWith Y S p2 p3) (va_A (wLo cI aL Y ++ (wSt cI aS S)) sz)) 0 0 (va_A (wLo cI aL Y ++ (wSt cI aS S)) sz) := by
  refine Met.ofW (cc := cX1_staySoundWith) (maxL := 5) (ret := (some .boolean)) (by decide) rfl ?_
  intro p e s m args below meth c s₁ B hml hv
  obtain ⟨rfl, hsz, hP, hK, hD0, hN⟩ := hv
  have hx := B.exec
  have hb := B.bytes
  have hr := B.returns
  have hts := atoms_spec (ws := wsX1_staySoundWith) B.pre
  have hown : s.vm.findClass RX1 = some m.cls := findClass_of_methodNamed B.named
  have hlocks := B.notSynchronized
  subst hsz
  have hD := hD0.self (sz := s.heap.size)
  generalize hAe : va_A (wLo cI aL Y ++ (wSt cI aS S)) s.heap.size = A at hD ⊢
  have hA : ∀ q : Nat, s.heap.size ≤ q → A q := fun q h => by rw [← hAe]; exact Or.inr h
  have hS : va_S A s.heap s.heap [] := va_S.rf
  have hP : va_P (dC, dI) vwCl (wLo cI aL Y ++ (wSt cI aS S)) s.heap := hP
  generalize hR : f1_staySoundWith Y S p2 p3 = res
  rw [f1_staySoundWith] at hR
  have hin5 : ∀ w ∈ wsX50, w ∈ wsX1_staySoundWith := by decide +kernel
  have hl := lv_entry ([.ref (aL 0), .ref (aS 0), .int p2, .int p3]) (n := 5) (Nat.le_of_ble_eq_true rfl)
  rw [lg_entry_eq]
  generalize (lg_sl ([.ref (aL 0), .ref (aS 0), .int p2, .int p3]) ++ List.replicate (5 - (lg_sl ([.ref (aL 0), .ref (aS 0), .int p2, .int p3])).length) Slot.unset).toArray = ls at hl ⊢
  have hl : lv_has ls 5 [(0, .ref (aL 0)), (1, .ref (aS 0)), (2, .int p2), (3, .int p3)] := hl
  refine lv_aload_n hx hb dX1_staySoundWith_0 rfl (lv_at hl 1 rfl) ?_
  refine lv_iload_n hx hb dX1_staySoundWith_1 rfl (lv_at hl 3 rfl) ?_
  refine va_calli (va_runV (As := [.int p3]) (rest := []) ⟨hx, hb, hml, hown, hts⟩ (met_X5_isLeftover l dC dI cI cZ cS aS S s.heap.size p3) (cwV 1 hts gX1_staySoundWith_X5_isLeftover rfl rfl rfl (by decide +kernel) ⟨Nat.le_of_ble_eq_true rfl, Nat.le_of_ble_eq_true rfl⟩) (pV (wc := wSt cI aS S) (ci := 5) (q0 := 3) hK hP hD hN [3, 4, 5, 6, 7, 8, 9, 10, 11, 12, 13] rfl (by decide) rfl rfl) rfl rfl hl.1 rfl (lv_room (Nat.le_of_ble_eq_true rfl)) dX1_staySoundWith_2 ⟨Nat.zero_le _, Nat.zero_le _⟩) hS (fun q _ h => a0_in hS hA q h) (a0_in hS hA) (fun r1 u t H1 locs ht hvm hw hB hz1 hk1 hS => ?_)
  obtain ⟨hw, nb2⟩ := hw
  have hR := bd_n hw hR
  have hP := rdk hP hk1
  refine lv_if_ne (tgt := 10) hx hb dX1_staySoundWith_5 (by decide) (fun c_3 => ?_) (fun c_3 => ?_)
  · rw [if_neg c_3] at hR
    refine lv_aload_n hx hb dX1_staySoundWith_10 rfl (lv_at hl 0 rfl) ?_
    have hF := va_free (wc := wLo cI aL Y) hD hS hA [0, 1, 2] rfl
    refine va_callv (va_runV (As := []) (rest := []) ⟨hx, hb, hml, hown, hts⟩ (met_X1_forget l dC dI cI cZ cS aL Y H1.size) (cwV 0 hts gX1_staySoundWith_X1_forget rfl rfl rfl (by decide +kernel) ⟨Nat.le_of_ble_eq_true rfl, Nat.le_of_ble_eq_true rfl⟩) (pV (wc := wLo cI aL Y) (ci := 1) (q0 := 0) hK hP hD hN [0, 1, 2] rfl (by decide) rfl rfl) rfl rfl hl.1 rfl (lv_room (Nat.le_of_ble_eq_true rfl)) dX1_staySoundWith_11 ⟨Nat.zero_le _, Nat.zero_le _⟩) hS (fun q _ h => hF q h) hF (fun  u4 t H2 locs ht hvm hw hB hz1 hk1 hS => ?_)
    try dsimp only at hw hB
    rw [ht] at hB
    have hR := bd_n hw hR
    have hP := wrk (w2 := wLo cI aL u4 ++ (wSt cI aS S)) hP hD [0, 1, 2] rfl (by decide) hk1 hB rfl rfl
    have hD := D_addr (w1 := wLo cI aL u4 ++ (wSt cI aS S)) hD rfl
    refine lv_aload_n hx hb dX1_staySoundWith_14 rfl (lv_at hl 1 rfl) ?_
    refine va_get (D := (dC, dI)) (ci := 5) (v := .ref (aS 11)) (C := RX5) (T := TX5) (N := 12) hx hb hts hin5 hown hK hP 3 rfl rfl 11 (by decide) (hw_ hts 1 rfl) (fun _ h9 => h9) rfl dX1_staySoundWith_15 ?_
    refine lv_iload_n hx hb dX1_staySoundWith_18 rfl (lv_at hl 2 rfl) ?_
    refine lv_iload_n hx hb dX1_staySoundWith_19 rfl (lv_at hl 3 rfl) ?_
    have hF := va_free (wc := [((aS 11), .inl (cI, 84, .inl (S 11)))]) hD hS hA [13] rfl
    refine va_callv (va_runSN (As := [.ref (aS 11), .int p2, .int p3]) (rest := []) ⟨hx, hb, hml, hown, hts⟩ (met_X6_put l dC dI cI cZ cS (aS 11) 84 (by decide) (S 11) H2.size p2 p3) ⟨va_cnB 3 hts ggX1_staySoundWith_X6_put rfl rfl rfl (hN_7 hN) (hw_ hts 10 rfl) (by decide +kernel) ⟨Nat.le_of_ble_eq_true rfl, Nat.le_of_ble_eq_true rfl⟩, (hw_ hts 23 rfl), trivial⟩ (pS (wc := [((aS 11), .inl (cI, 84, .inl (S 11)))]) hK hP hD hN [13] rfl (by decide)) rfl rfl hl.1 rfl (lv_room (Nat.le_of_ble_eq_true rfl)) dX1_staySoundWith_20 ⟨Nat.zero_le _, Nat.zero_le _⟩) hS (fun q _ h => hF q h) hF (fun  u5 t H3 locs ht hvm hw hB hz1 hk1 hS => ?_)
    try dsimp only at hw hB
    rw [ht] at hB
    subst hw
    have hP := wrk (w2 := wLo cI aL u4 ++ (wSt cI aS (pset S 11 (f6_put 84 (S 11) p2 p3)))) hP hD [13] rfl (by decide) hk1 hB rfl rfl
    have hD := D_addr (w1 := wLo cI aL u4 ++ (wSt cI aS (pset S 11 (f6_put 84 (S 11) p2 p3)))) hD rfl
    obtain ⟨Sb6, hSb6⟩ : ∃ z : Pic, z = (pset S 11 (f6_put 84 (S 11) p2 p3)) := ⟨_, rfl⟩
    rw [← hSb6] at hP hD
    have hR := bd_n hSb6 hR
    refine lv_aload_n hx hb dX1_staySoundWith_23 rfl (lv_at hl 0 rfl) ?_
    refine lv_aload_n hx hb dX1_staySoundWith_24 rfl (lv_at hl 1 rfl) ?_
    refine lv_iload_n hx hb dX1_staySoundWith_25 rfl (lv_at hl 3 rfl) ?_
    have hF := va_free (wc := wLo cI aL u4 ++ (wSt cI aS Sb6)) hD hS hA [0, 1, 2, 3, 4, 5, 6, 7, 8, 9, 10, 11, 12, 13] rfl
    refine va_calli (va_runV (As := [.ref (aS 0), .int p3]) (rest := []) ⟨hx, hb, hml, hown, hts⟩ (met_X1_pairServings l dC dI cI cZ cS aL aS u4 Sb6 H3.size p3) (cwV 2 hts gX1_staySoundWith_X1_pairServings rfl rfl rfl (by decide +kernel) ⟨Nat.le_of_ble_eq_true rfl, Nat.le_of_ble_eq_true rfl⟩) (pV (wc := wLo cI aL u4 ++ (wSt cI aS Sb6)) (ci := 1) (q0 := 0) hK hP hD hN [0, 1, 2, 3, 4, 5, 6, 7, 8, 9, 10, 11, 12, 13] rfl (by decide) rfl rfl) rfl rfl hl.1 rfl (lv_room (Nat.le_of_ble_eq_true rfl)) dX1_staySoundWith_26 ⟨Nat.zero_le _, Nat.zero_le _⟩) hS (fun q _ h => hF q h) hF (fun r7 u8 t H4 locs ht hvm hw hB hz1 hk1 hS => ?_)
    obtain ⟨hw, nb9⟩ := hw
    try dsimp only at hw hB
    rw [ht] at hB
    have hR := bd2_n hw hR
    have hP := wrk (w2 := wLo cI aL u8 ++ (wSt cI aS Sb6)) hP hD [0, 1, 2, 3, 4, 5, 6, 7, 8, 9, 10, 11, 12, 13] rfl (by decide) hk1 hB rfl rfl
    have hD := D_addr (w1 := wLo cI aL u8 ++ (wSt cI aS Sb6)) hD rfl
    refine lv_istore (lv' := [(4, .int r7), (0, .ref (aL 0)), (1, .ref (aS 0)), (2, .int p2), (3, .int p3)]) hx hb dX1_staySoundWith_29 hl (by decide) rfl (fun ls hl => ?_)
    refine lv_aload_n hx hb dX1_staySoundWith_31 rfl (lv_at hl 2 rfl) ?_
    refine va_get (D := (dC, dI)) (ci := 5) (v := .ref (aS 11)) (C := RX5) (T := TX5) (N := 12) hx hb hts hin5 hown hK hP 3 rfl rfl 11 (by decide) (hw_ hts 1 rfl) (fun _ h9 => h9) rfl dX1_staySoundWith_32 ?_
    refine lv_iload_n hx hb dX1_staySoundWith_35 rfl (lv_at hl 3 rfl) ?_
    refine lv_iconst (v := (-1 : Int32)) hx hb dX1_staySoundWith_36 (by decide) ?_
    have hF := va_free (wc := [((aS 11), .inl (cI, 84, .inl (Sb6 11)))]) hD hS hA [13] rfl
    refine va_callv (va_runSN (As := [.ref (aS 11), .int p2, .int (-1 : Int32)]) (rest := []) ⟨hx, hb, hml, hown, hts⟩ (met_X6_put l dC dI cI cZ cS (aS 11) 84 (by decide) (Sb6 11) H4.size p2 (-1 : Int32)) ⟨va_cnB 3 hts ggX1_staySoundWith_X6_put rfl rfl rfl (hN_7 hN) (hw_ hts 10 rfl) (by decide +kernel) ⟨Nat.le_of_ble_eq_true rfl, Nat.le_of_ble_eq_true rfl⟩, (hw_ hts 23 rfl), trivial⟩ (pS (wc := [((aS 11), .inl (cI, 84, .inl (Sb6 11)))]) hK hP hD hN [13] rfl (by decide)) rfl rfl hl.1 rfl (lv_room (Nat.le_of_ble_eq_true rfl)) dX1_staySoundWith_37 ⟨Nat.zero_le _, Nat.zero_le _⟩) hS (fun q _ h => hF q h) hF (fun  u10 t H5 locs ht hvm hw hB hz1 hk1 hS => ?_)
    try dsimp only at hw hB
    rw [ht] at hB
    subst hw
    have hP := wrk (w2 := wLo cI aL u8 ++ (wSt cI aS (pset Sb6 11 (f6_put 84 (Sb6 11) p2 (-1 : Int32))))) hP hD [13] rfl (by decide) hk1 hB rfl rfl
    have hD := D_addr (w1 := wLo cI aL u8 ++ (wSt cI aS (pset Sb6 11 (f6_put 84 (Sb6 11) p2 (-1 : Int32))))) hD rfl
    obtain ⟨Sb11, hSb11⟩ : ∃ z : Pic, z = (pset Sb6 11 (f6_put 84 (Sb6 11) p2 (-1 : Int32))) := ⟨_, rfl⟩
    rw [← hSb11] at hP hD
    have hR := bd_n hSb11 hR
    refine lv_iload hx hb dX1_staySoundWith_40 (lv_at hl 0 rfl) ?_
    exact W.zret (v := r7) (ty := .boolean) hx hb hr nb9 (fun t ht hW => ⟨⟨r7, (u8, Sb11), rfl, ⟨hR, nb9⟩, P_at ht hP⟩, hS.F ht⟩) hS.2.2 dX1_staySoundWith_42
  · rw [if_pos c_3] at hR
    refine lv_iconst (v := (1 : Int32)) hx hb dX1_staySoundWith_8 (by decide) ?_
    exact W.zret (v := (1 : Int32)) (ty := .boolean) hx hb hr rfl (fun t ht hW => ⟨⟨(1 : Int32), (Y, S), rfl, ⟨hR, rfl⟩, P_at ht hP⟩, hS.F ht⟩) hS.2.2 dX1_staySoundWith_9
abbrev rm_X1_sourceDay : Room := { frames := 3, cells := 0, slots := 0, locals := 78 }
abbrev q_X1_sourceDay (dC : Nat → ClassId) (dI : Nat → Nat → Nat) (cI cZ cS : ClassId) (aL : Nat → Nat) (aS : Nat → Nat) (S : Pic) (res : Int32 × Pic) (A : Nat → Prop) : Array Value → State → Outcome → State → Prop := va_Qi (fun (r : Int32) (u : Pic) => (r, u) = res) (fun u t => va_P (dC, dI) vwCl (wLo cI aL u ++ (wSt cI aS S)) t.heap) A
set_option maxHeartbeats 4000000 in
set_option maxRecDepth 100000 in
theorem met_X1_sourceDay (l : Launch) (dC : Nat → ClassId) (dI : Nat → Nat → Nat) (cI cZ cS : ClassId) (aL : Nat → Nat) (aS : Nat → Nat) (Y : Pic) (S : Pic) (sz : Nat) (p2 : Int32) : Met l yX1_sourceDay wsX1_sourceDay rm_X1_sourceDay (va_Pc [.ref (aL 0), .ref (aS 0), .int p2] (pW (dC, dI) (tyS cI cZ cS) (wLo cI aL Y ++ (wSt cI aS S)) sz)) (q_X1_sourceDay dC dI cI cZ cS aL aS S (f1_sourceDay Y S p2) (va_A (wLo cI aL Y ++ (wSt cI aS S)) sz)) 0 0 (va_A (wLo cI aL Y ++ (wSt cI aS S)) sz) := by
  refine Met.ofW (cc := cX1_sourceDay) (maxL := 5) (ret := (some .int)) (by decide) rfl ?_
  intro p e s m args below meth c s₁ B hml hv
  obtain ⟨rfl, hsz, hP, hK, hD0, hN⟩ := hv
  have hx := B.exec
  have hb := B.bytes
  have hr := B.returns
  have hts := atoms_spec (ws := wsX1_sourceDay) B.pre
  have hown : s.vm.findClass RX1 = some m.cls := findClass_of_methodNamed B.named
  have hlocks := B.notSynchronized
  subst hsz
  have hD := hD0.self (sz := s.heap.size)
  generalize hAe : va_A (wLo cI aL Y ++ (wSt cI aS S)) s.heap.size = A at hD ⊢
  have hA : ∀ q : Nat, s.heap.size ≤ q → A q := fun q h => by rw [← hAe]; exact Or.inr h
  have hS : va_S A s.heap s.heap [] := va_S.rf
  have hP : va_P (dC, dI) vwCl (wLo cI aL Y ++ (wSt cI aS S)) s.heap := hP
  generalize hR : f1_sourceDay Y S p2 = res
  rw [f1_sourceDay] at hR
  have hin5 : ∀ w ∈ wsX50, w ∈ wsX1_sourceDay := by decide +kernel
  have hin1 : ∀ w ∈ wsX10, w ∈ wsX1_sourceDay := by decide +kernel
  have hl := lv_entry ([.ref (aL 0), .ref (aS 0), .int p2]) (n := 5) (Nat.le_of_ble_eq_true rfl)
  rw [lg_entry_eq]
  generalize (lg_sl ([.ref (aL 0), .ref (aS 0), .int p2]) ++ List.replicate (5 - (lg_sl ([.ref (aL 0), .ref (aS 0), .int p2])).length) Slot.unset).toArray = ls at hl ⊢
  have hl : lv_has ls 5 [(0, .ref (aL 0)), (1, .ref (aS 0)), (2, .int p2)] := hl
  refine lv_aload_n hx hb dX1_sourceDay_0 rfl (lv_at hl 1 rfl) ?_
  refine va_get (D := (dC, dI)) (ci := 5) (v := .ref (aS 11)) (C := RX5) (T := TX5) (N := 12) hx hb hts hin5 hown hK hP 3 rfl rfl 11 (by decide) (hw_ hts 1 rfl) (fun _ h9 => h9) rfl dX1_sourceDay_1 ?_
  refine lv_iload_n hx hb dX1_sourceDay_4 rfl (lv_at hl 2 rfl) ?_
  refine va_calli (va_runSN (As := [.ref (aS 11), .int p2]) (rest := []) ⟨hx, hb, hml, hown, hts⟩ (met_X6_at l dC dI cI cZ cS (aS 11) 84 (by decide) (S 11) s.heap.size p2) ⟨va_cnB 2 hts ggX1_sourceDay_X6_at rfl rfl rfl (hN_5 hN) (hw_ hts 4 rfl) (by decide +kernel) ⟨Nat.le_of_ble_eq_true rfl, Nat.le_of_ble_eq_true rfl⟩, (hw_ hts 3 rfl), trivial⟩ (pS (wc := [((aS 11), .inl (cI, 84, .inl (S 11)))]) hK hP hD hN [13] rfl (by decide)) rfl rfl hl.1 rfl (lv_room (Nat.le_of_ble_eq_true rfl)) dX1_sourceDay_5 ⟨Nat.zero_le _, Nat.zero_le _⟩) hS (fun q _ h => a0_in hS hA q h) (a0_in hS hA) (fun r1 u t H1 locs ht hvm hw hB hz1 hk1 hS => ?_)
  subst hw
  have hP := rdk hP hk1
  refine lv_topi (fun v2 hv2 => ?_)
  have hR := bd_n hv2 hR
  refine lv_istore_n (lv' := [(3, .int v2), (0, .ref (aL 0)), (1, .ref (aS 0)), (2, .int p2)]) hx hb dX1_sourceDay_8 rfl hl (by decide) rfl (fun ls hl => ?_)
  refine lv_aload_n hx hb dX1_sourceDay_9 rfl (lv_at hl 1 rfl) ?_
  have hF := va_free (wc := wLo cI aL Y) hD hS hA [0, 1, 2] rfl
  refine va_callv (va_runV (As := []) (rest := []) ⟨hx, hb, hml, hown, hts⟩ (met_X1_forget l dC dI cI cZ cS aL Y H1.size) (cwV 0 hts gX1_sourceDay_X1_forget rfl rfl rfl (by decide +kernel) ⟨Nat.le_of_ble_eq_true rfl, Nat.le_of_ble_eq_true rfl⟩) (pV (wc := wLo cI aL Y) (ci := 1) (q0 := 0) hK hP hD hN [0, 1, 2] rfl (by decide) rfl rfl) rfl rfl hl.1 rfl (lv_room (Nat.le_of_ble_eq_true rfl)) dX1_sourceDay_10 ⟨Nat.zero_le _, Nat.zero_le _⟩) hS (fun q _ h => hF q h) hF (fun  u3 t H2 locs ht hvm hw hB hz1 hk1 hS => ?_)
  try dsimp only at hw hB
  rw [ht] at hB
  have hR := bd_n hw hR
  have hP := wrk (w2 := wLo cI aL u3 ++ (wSt cI aS S)) hP hD [0, 1, 2] rfl (by decide) hk1 hB rfl rfl
  have hD := D_addr (w1 := wLo cI aL u3 ++ (wSt cI aS S)) hD rfl
  refine lv_iload_n hx hb dX1_sourceDay_13 rfl (lv_at hl 0 rfl) ?_
  refine lv_iconst (v := (-1 : Int32)) hx hb dX1_sourceDay_14 (by decide) ?_
  refine lv_icmp_eq (tgt := 33) hx hb dX1_sourceDay_15 (by decide) (fun c_4 => ?_) (fun c_4 => ?_)
  · rw [if_pos c_4] at hR
    refine lv_aload_n hx hb dX1_sourceDay_33 rfl (lv_at hl 1 rfl) ?_
    refine va_get (D := (dC, dI)) (ci := 1) (v := .ref (aL 1)) (C := RX1) (T := TX1) (N := 2) hx hb hts hin1 hown hK hP 0 rfl rfl 0 (by decide) (hw_ hts 2 rfl) (fun _ h9 => h9) rfl dX1_sourceDay_34 ?_
    refine lv_iload_n hx hb dX1_sourceDay_37 rfl (lv_at hl 3 rfl) ?_
    refine va_calli (va_runSN (As := [.ref (aL 1), .int p2]) (rest := []) ⟨hx, hb, hml, hown, hts⟩ (met_X6_at l dC dI cI cZ cS (aL 1) 84 (by decide) (u3 0) H2.size p2) ⟨va_cnB 2 hts ggX1_sourceDay_X6_at rfl rfl rfl (hN_5 hN) (hw_ hts 4 rfl) (by decide +kernel) ⟨Nat.le_of_ble_eq_true rfl, Nat.le_of_ble_eq_true rfl⟩, (hw_ hts 3 rfl), trivial⟩ (pS (wc := [((aL 1), .inl (cI, 84, .inl (u3 0)))]) hK hP hD hN [1] rfl (by decide)) rfl rfl hl.1 rfl (lv_room (Nat.le_of_ble_eq_true rfl)) dX1_sourceDay_38 ⟨Nat.zero_le _, Nat.zero_le _⟩) hS (fun q _ h => a0_in hS hA q h) (a0_in hS hA) (fun r5 u t H3 locs ht hvm hw hB hz1 hk1 hS => ?_)
    subst hw
    have hP := rdk hP hk1
    refine lv_topi (fun v6 hv6 => ?_)
    have hR := bd_n hv6 hR
    refine lv_istore (lv' := [(4, .int v6), (3, .int v2), (0, .ref (aL 0)), (1, .ref (aS 0)), (2, .int p2)]) hx hb dX1_sourceDay_41 hl (by decide) rfl (fun ls hl => ?_)
    refine lv_iload hx hb dX1_sourceDay_43 (lv_at hl 0 rfl) ?_
    refine lv_iconst (v := (-1 : Int32)) hx hb dX1_sourceDay_45 (by decide) ?_
    refine lv_icmp_ne (tgt := 53) hx hb dX1_sourceDay_46 (by decide) (fun c_7 => ?_) (fun c_7 => ?_)
    · rw [if_neg c_7] at hR
      refine lv_iload hx hb dX1_sourceDay_53 (lv_at hl 0 rfl) ?_
      refine lv_iconst (v := (3 : Int32)) hx hb dX1_sourceDay_55 (by decide) ?_
      refine lv_idiv hx hb dX1_sourceDay_56 (by decide) ?_
      exact W.iret (v := (v6 / (3 : Int32))) hx hb hr (fun t ht hW => ⟨⟨(v6 / (3 : Int32)), u3, rfl, hR, P_at ht hP⟩, hS.F ht⟩) hS.2.2 dX1_sourceDay_57
    · rw [if_pos c_7] at hR
      refine lv_iconst (v := (-1 : Int32)) hx hb dX1_sourceDay_49 (by decide) ?_
      refine lv_goto (tgt := 57) hx hb dX1_sourceDay_50 (by decide) ?_
      exact W.iret (v := (-1 : Int32)) hx hb hr (fun t ht hW => ⟨⟨(-1 : Int32), u3, rfl, hR, P_at ht hP⟩, hS.F ht⟩) hS.2.2 dX1_sourceDay_57
  · rw [if_neg c_4] at hR
    refine lv_aload_n hx hb dX1_sourceDay_18 rfl (lv_at hl 2 rfl) ?_
    refine lv_iload_n hx hb dX1_sourceDay_19 rfl (lv_at hl 0 rfl) ?_
    refine va_calli (va_runV (As := [.int v2]) (rest := []) ⟨hx, hb, hml, hown, hts⟩ (met_X5_isLeftover l dC dI cI cZ cS aS S H2.size v2) (cwV 1 hts gX1_sourceDay_X5_isLeftover rfl rfl rfl (by decide +kernel) ⟨Nat.le_of_ble_eq_true rfl, Nat.le_of_ble_eq_true rfl⟩) (pV (wc := wSt cI aS S) (ci := 5) (q0 := 3) hK hP hD hN [3, 4, 5, 6, 7, 8, 9, 10, 11, 12, 13] rfl (by decide) rfl rfl) rfl rfl hl.1 rfl (lv_room (Nat.le_of_ble_eq_true rfl)) dX1_sourceDay_20 ⟨Nat.zero_le _, Nat.zero_le _⟩) hS (fun q _ h => a0_in hS hA q h) (a0_in hS hA) (fun r8 u t H3 locs ht hvm hw hB hz1 hk1 hS => ?_)
    obtain ⟨hw, nb9⟩ := hw
    have hR := bd_n hw hR
    have hP := rdk hP hk1
    refine lv_if_eq (tgt := 33) hx hb dX1_sourceDay_23 (by decide) (fun c_10 => ?_) (fun c_10 => ?_)
    · rw [if_pos c_10] at hR
      refine lv_aload_n hx hb dX1_sourceDay_33 rfl (lv_at hl 1 rfl) ?_
      refine va_get (D := (dC, dI)) (ci := 1) (v := .ref (aL 1)) (C := RX1) (T := TX1) (N := 2) hx hb hts hin1 hown hK hP 0 rfl rfl 0 (by decide) (hw_ hts 2 rfl) (fun _ h9 => h9) rfl dX1_sourceDay_34 ?_
      refine lv_iload_n hx hb dX1_sourceDay_37 rfl (lv_at hl 3 rfl) ?_
      refine va_calli (va_runSN (As := [.ref (aL 1), .int p2]) (rest := []) ⟨hx, hb, hml, hown, hts⟩ (met_X6_at l dC dI cI cZ cS (aL 1) 84 (by decide) (u3 0) H3.size p2) ⟨va_cnB 2 hts ggX1_sourceDay_X6_at rfl rfl rfl (hN_5 hN) (hw_ hts 4 rfl) (by decide +kernel) ⟨Nat.le_of_ble_eq_true rfl, Nat.le_of_ble_eq_true rfl⟩, (hw_ hts 3 rfl), trivial⟩ (pS (wc := [((aL 1), .inl (cI, 84, .inl (u3 0)))]) hK hP hD hN [1] rfl (by decide)) rfl rfl hl.1 rfl (lv_room (Nat.le_of_ble_eq_true rfl)) dX1_sourceDay_38 ⟨Nat.zero_le _, Nat.zero_le _⟩) hS (fun q _ h => a0_in hS hA q h) (a0_in hS hA) (fun r11 u t H4 locs ht hvm hw hB hz1 hk1 hS => ?_)
      subst hw
      have hP := rdk hP hk1
      refine lv_topi (fun v12 hv12 => ?_)
      have hR := bd_n hv12 hR
      refine lv_istore (lv' := [(4, .int v12), (3, .int v2), (0, .ref (aL 0)), (1, .ref (aS 0)), (2, .int p2)]) hx hb dX1_sourceDay_41 hl (by decide) rfl (fun ls hl => ?_)
      refine lv_iload hx hb dX1_sourceDay_43 (lv_at hl 0 rfl) ?_
      refine lv_iconst (v := (-1 : Int32)) hx hb dX1_sourceDay_45 (by decide) ?_
      refine lv_icmp_ne (tgt := 53) hx hb dX1_sourceDay_46 (by decide) (fun c_13 => ?_) (fun c_13 => ?_)
      · rw [if_neg c_13] at hR
        refine lv_iload hx hb dX1_sourceDay_53 (lv_at hl 0 rfl) ?_
        refine lv_iconst (v := (3 : Int32)) hx hb dX1_sourceDay_55 (by decide) ?_
        refine lv_idiv hx hb dX1_sourceDay_56 (by decide) ?_
        exact W.iret (v := (v12 / (3 : Int32))) hx hb hr (fun t ht hW => ⟨⟨(v12 / (3 : Int32)), u3, rfl, hR, P_at ht hP⟩, hS.F ht⟩) hS.2.2 dX1_sourceDay_57
      · rw [if_pos c_13] at hR
        refine lv_iconst (v := (-1 : Int32)) hx hb dX1_sourceDay_49 (by decide) ?_
        refine lv_goto (tgt := 57) hx hb dX1_sourceDay_50 (by decide) ?_
        exact W.iret (v := (-1 : Int32)) hx hb hr (fun t ht hW => ⟨⟨(-1 : Int32), u3, rfl, hR, P_at ht hP⟩, hS.F ht⟩) hS.2.2 dX1_sourceDay_57
    · rw [if_neg c_10] at hR
      refine lv_aload_n hx hb dX1_sourceDay_26 rfl (lv_at hl 1 rfl) ?_
      refine lv_aload_n hx hb dX1_sourceDay_27 rfl (lv_at hl 2 rfl) ?_
      refine lv_iload_n hx hb dX1_sourceDay_28 rfl (lv_at hl 0 rfl) ?_
      have hF := va_free (wc := wLo cI aL u3 ++ (wSt cI aS S)) hD hS hA [0, 1, 2, 3, 4, 5, 6, 7, 8, 9, 10, 11, 12, 13] rfl
      refine va_calli (va_runV (As := [.ref (aS 0), .int v2]) (rest := []) ⟨hx, hb, hml, hown, hts⟩ (met_X1_pairServings l dC dI cI cZ cS aL aS u3 S H3.size v2) (cwV 2 hts gX1_sourceDay_X1_pairServings rfl rfl rfl (by decide +kernel) ⟨Nat.le_of_ble_eq_true rfl, Nat.le_of_ble_eq_true rfl⟩) (pV (wc := wLo cI aL u3 ++ (wSt cI aS S)) (ci := 1) (q0 := 0) hK hP hD hN [0, 1, 2, 3, 4, 5, 6, 7, 8, 9, 10, 11, 12, 13] rfl (by decide) rfl rfl) rfl rfl hl.1 rfl (lv_room (Nat.le_of_ble_eq_true rfl)) dX1_sourceDay_29 ⟨Nat.zero_le _, Nat.zero_le _⟩) hS (fun q _ h => hF q h) hF (fun r14 u15 t H4 locs ht hvm hw hB hz1 hk1 hS => ?_)
      obtain ⟨hw, nb16⟩ := hw
      try dsimp only at hw hB
      rw [ht] at hB
      have hR := bd2_n hw hR
      have hP := wrk (w2 := wLo cI aL u15 ++ (wSt cI aS S)) hP hD [0, 1, 2, 3, 4, 5, 6, 7, 8, 9, 10, 11, 12, 13] rfl (by decide) hk1 hB rfl rfl
      have hD := D_addr (w1 := wLo cI aL u15 ++ (wSt cI aS S)) hD rfl
      refine lv_pop hx hb dX1_sourceDay_32 rfl ?_
      refine lv_aload_n hx hb dX1_sourceDay_33 rfl (lv_at hl 1 rfl) ?_
      refine va_get (D := (dC, dI)) (ci := 1) (v := .ref (aL 1)) (C := RX1) (T := TX1) (N := 2) hx hb hts hin1 hown hK hP 0 rfl rfl 0 (by decide) (hw_ hts 2 rfl) (fun _ h9 => h9) rfl dX1_sourceDay_34 ?_
      refine lv_iload_n hx hb dX1_sourceDay_37 rfl (lv_at hl 3 rfl) ?_
      refine va_calli (va_runSN (As := [.ref (aL 1), .int p2]) (rest := []) ⟨hx, hb, hml, hown, hts⟩ (met_X6_at l dC dI cI cZ cS (aL 1) 84 (by decide) (u15 0) H4.size p2) ⟨va_cnB 2 hts ggX1_sourceDay_X6_at rfl rfl rfl (hN_5 hN) (hw_ hts 4 rfl) (by decide +kernel) ⟨Nat.le_of_ble_eq_true rfl, Nat.le_of_ble_eq_true rfl⟩, (hw_ hts 3 rfl), trivial⟩ (pS (wc := [((aL 1), .inl (cI, 84, .inl (u15 0)))]) hK hP hD hN [1] rfl (by decide)) rfl rfl hl.1 rfl (lv_room (Nat.le_of_ble_eq_true rfl)) dX1_sourceDay_38 ⟨Nat.zero_le _, Nat.zero_le _⟩) hS (fun q _ h => a0_in hS hA q h) (a0_in hS hA) (fun r17 u t H5 locs ht hvm hw hB hz1 hk1 hS => ?_)
      subst hw
      have hP := rdk hP hk1
      refine lv_topi (fun v18 hv18 => ?_)
      have hR := bd_n hv18 hR
      refine lv_istore (lv' := [(4, .int v18), (3, .int v2), (0, .ref (aL 0)), (1, .ref (aS 0)), (2, .int p2)]) hx hb dX1_sourceDay_41 hl (by decide) rfl (fun ls hl => ?_)
      refine lv_iload hx hb dX1_sourceDay_43 (lv_at hl 0 rfl) ?_
      refine lv_iconst (v := (-1 : Int32)) hx hb dX1_sourceDay_45 (by decide) ?_
      refine lv_icmp_ne (tgt := 53) hx hb dX1_sourceDay_46 (by decide) (fun c_19 => ?_) (fun c_19 => ?_)
      · rw [if_neg c_19] at hR
        refine lv_iload hx hb dX1_sourceDay_53 (lv_at hl 0 rfl) ?_
        refine lv_iconst (v := (3 : Int32)) hx hb dX1_sourceDay_55 (by decide) ?_
        refine lv_idiv hx hb dX1_sourceDay_56 (by decide) ?_
        exact W.iret (v := (v18 / (3 : Int32))) hx hb hr (fun t ht hW => ⟨⟨(v18 / (3 : Int32)), u15, rfl, hR, P_at ht hP⟩, hS.F ht⟩) hS.2.2 dX1_sourceDay_57
      · rw [if_pos c_19] at hR
        refine lv_iconst (v := (-1 : Int32)) hx hb dX1_sourceDay_49 (by decide) ?_
        refine lv_goto (tgt := 57) hx hb dX1_sourceDay_50 (by decide) ?_
        exact W.iret (v := (-1 : Int32)) hx hb hr (fun t ht hW => ⟨⟨(-1 : Int32), u15, rfl, hR, P_at ht hP⟩, hS.F ht⟩) hS.2.2 dX1_sourceDay_57
abbrev rm_X1_wastedServings : Room := { frames := 1, cells := 0, slots := 0, locals := 21 }
abbrev q_X1_wastedServings (dC : Nat → ClassId) (dI : Nat → Nat → Nat) (cI cZ cS : ClassId) (aL : Nat → Nat) (aS : Nat → Nat)  (res : Int32) (A : Nat → Prop) : Array Value → State → Outcome → State → Prop := va_Qi (fun (r : Int32) (u : Unit) => r = res) (fun _ _ => True) A
set_option maxHeartbeats 4000000 in
set_option maxRecDepth 100000 in
theorem met_X1_wastedServings (l : Launch) (dC : Nat → ClassId) (dI : Nat → Nat → Nat) (cI cZ cS : ClassId) (aL : Nat → Nat) (aS : Nat → Nat) (Y : Pic) (S : Pic) (sz : Nat) (p2 : Int32) : Met l yX1_wastedServings wsX1_wastedServings rm_X1_wastedServings (va_Pc [.ref (aL 0), .ref (aS 0), .int p2] (pW (dC, dI) (tyS cI cZ cS) (wLo cI aL Y ++ (wSt cI aS S)) sz)) (q_X1_wastedServings dC dI cI cZ cS aL aS (f1_wastedServings Y S p2) (a0 sz)) 0 0 (a0 sz) := by
  refine Met.ofW (cc := cX1_wastedServings) (maxL := 5) (ret := (some .int)) (by decide) rfl ?_
  intro p e s m args below meth c s₁ B hml hv
  obtain ⟨rfl, hsz, hP, hK, hD0, hN⟩ := hv
  have hx := B.exec
  have hb := B.bytes
  have hr := B.returns
  have hts := atoms_spec (ws := wsX1_wastedServings) B.pre
  have hown : s.vm.findClass RX1 = some m.cls := findClass_of_methodNamed B.named
  have hlocks := B.notSynchronized
  subst hsz
  have hD := hD0
  have hA : ∀ q : Nat, s.heap.size ≤ q → a0 s.heap.size q := fun q h => Or.inr h
  have hS : va_S (a0 s.heap.size) s.heap s.heap [] := va_S.rf
  have hP : va_P (dC, dI) vwCl (wLo cI aL Y ++ (wSt cI aS S)) s.heap := hP
  generalize hR : f1_wastedServings Y S p2 = res
  rw [f1_wastedServings] at hR
  have hin5 : ∀ w ∈ wsX50, w ∈ wsX1_wastedServings := by decide +kernel
  have hin1 : ∀ w ∈ wsX10, w ∈ wsX1_wastedServings := by decide +kernel
  have hl := lv_entry ([.ref (aL 0), .ref (aS 0), .int p2]) (n := 5) (Nat.le_of_ble_eq_true rfl)
  rw [lg_entry_eq]
  generalize (lg_sl ([.ref (aL 0), .ref (aS 0), .int p2]) ++ List.replicate (5 - (lg_sl ([.ref (aL 0), .ref (aS 0), .int p2])).length) Slot.unset).toArray = ls at hl ⊢
  have hl : lv_has ls 5 [(0, .ref (aL 0)), (1, .ref (aS 0)), (2, .int p2)] := hl
  refine lv_aload_n hx hb dX1_wastedServings_0 rfl (lv_at hl 1 rfl) ?_
  refine va_get (D := (dC, dI)) (ci := 5) (v := .ref (aS 5)) (C := RX5) (T := TX5) (N := 12) hx hb hts hin5 hown hK hP 3 rfl rfl 5 (by decide) (hw_ hts 1 rfl) (fun _ h9 => h9) rfl dX1_wastedServings_1 ?_
  refine lv_iload_n hx hb dX1_wastedServings_4 rfl (lv_at hl 2 rfl) ?_
  refine va_calli (va_runSN (As := [.ref (aS 5), .int p2]) (rest := []) ⟨hx, hb, hml, hown, hts⟩ (met_X6_at l dC dI cI cZ cS (aS 5) 12 (by decide) (S 5) s.heap.size p2) ⟨va_cnB 2 hts ggX1_wastedServings_X6_at rfl rfl rfl (hN_5 hN) (hw_ hts 5 rfl) (by decide +kernel) ⟨Nat.le_of_ble_eq_true rfl, Nat.le_of_ble_eq_true rfl⟩, (hw_ hts 4 rfl), trivial⟩ (pS (wc := [((aS 5), .inl (cI, 12, .inl (S 5)))]) hK hP hD hN [8] rfl (by decide)) rfl rfl hl.1 rfl (lv_room (Nat.le_of_ble_eq_true rfl)) dX1_wastedServings_5 ⟨Nat.zero_le _, Nat.zero_le _⟩) hS (fun q _ h => a0_in hS hA q h) (a0_in hS hA) (fun r1 u t H1 locs ht hvm hw hB hz1 hk1 hS => ?_)
  subst hw
  have hP := rdk hP hk1
  refine lv_iconst (v := (-1 : Int32)) hx hb dX1_wastedServings_8 (by decide) ?_
  refine lv_icmp_ne (tgt := 14) hx hb dX1_wastedServings_9 (by decide) (fun c_2 => ?_) (fun c_2 => ?_)
  · rw [if_neg c_2] at hR
    refine lv_iconst (v := (0 : Int32)) hx hb dX1_wastedServings_14 (by decide) ?_
    refine lv_istore_n (lv' := [(3, .int (0 : Int32)), (0, .ref (aL 0)), (1, .ref (aS 0)), (2, .int p2)]) hx hb dX1_wastedServings_15 rfl hl (by decide) rfl (fun ls hl => ?_)
    refine lv_iconst (v := (0 : Int32)) hx hb dX1_wastedServings_16 (by decide) ?_
    refine lv_istore (lv' := [(4, .int (0 : Int32)), (3, .int (0 : Int32)), (0, .ref (aL 0)), (1, .ref (aS 0)), (2, .int p2)]) hx hb dX1_wastedServings_17 hl (by decide) rfl (fun ls hl => ?_)
    have LOOP19 : ∀ (k : Int32 → Int32), (∀ (x3_19 : Int32) (H2 : Heap) (locs : List Loc), k x3_19 = res → va_P (dC, dI) vwCl (wLo cI aL Y ++ (wSt cI aS S)) H2 → va_D (fun _ => True) (wLo cI aL Y ++ (wSt cI aS S)) → va_S (a0 s.heap.size) s.heap H2 locs → ∀ (ls : Array Slot), lv_has ls 5 [(3, .int x3_19)] → W p l e (headSpec wsX1_wastedServings rm_X1_wastedServings).room s m ([.ref (aL 0), .ref (aS 0), .int p2] : List Value).toArray below meth c H2 locs 0 0 (MQ below (q_X1_wastedServings dC dI cI cZ cS aL aS res (a0 s.heap.size)) ([.ref (aL 0), .ref (aS 0), .int p2] : List Value).toArray s 0 0 (a0 s.heap.size)) (F0 m 60 ls [])) → ∀ (nf : Nat) (x3_19 : Int32) (x4_19 : Int32) (H2 : Heap) (locs : List Loc), ((84 : Int32)).toInt - (x4_19).toInt ≤ (nf : Int) → f1_wastedServings_L19 Y S p2 nf x3_19 x4_19 k = res → va_P (dC, dI) vwCl (wLo cI aL Y ++ (wSt cI aS S)) H2 → va_D (fun _ => True) (wLo cI aL Y ++ (wSt cI aS S)) → va_S (a0 s.heap.size) s.heap H2 locs → ∀ (ls : Array Slot), lv_has ls 5 [(3, .int x3_19), (4, .int x4_19), (0, .ref (aL 0)), (1, .ref (aS 0)), (2, .int p2)] → W p l e (headSpec wsX1_wastedServings rm_X1_wastedServings).room s m ([.ref (aL 0), .ref (aS 0), .int p2] : List Value).toArray below meth c H2 locs 0 0 (MQ below (q_X1_wastedServings dC dI cI cZ cS aL aS res (a0 s.heap.size)) ([.ref (aL 0), .ref (aS 0), .int p2] : List Value).toArray s 0 0 (a0 s.heap.size)) (F0 m 19 ls []) := by
      intro k hk nf
      induction nf with
      | zero =>
        intro x3_19 x4_19 H2 locs hfu hR hP hD hS ls hl
        rw [f1_wastedServings_L19] at hR
        refine lv_iload hx hb dX1_wastedServings_19 (lv_at hl 1 rfl) ?_
        refine lv_bipush (v := (84 : Int32)) hx hb dX1_wastedServings_21 (by decide) ?_
        refine lv_icmp_ge (tgt := 60) hx hb dX1_wastedServings_23 (by decide) (fun c_3 => ?_) (fun c_3 => ?_)
        · skip
          exact hk x3_19 _ _  hR hP hD hS ls (lv_sub hl [0] rfl)
        · exact (fuel0 hfu c_3).elim
      | succ nf ih =>
        intro x3_19 x4_19 H2 locs hfu hR hP hD hS ls hl
        rw [f1_wastedServings_L19] at hR
        refine lv_iload hx hb dX1_wastedServings_19 (lv_at hl 1 rfl) ?_
        refine lv_bipush (v := (84 : Int32)) hx hb dX1_wastedServings_21 (by decide) ?_
        refine lv_icmp_ge (tgt := 60) hx hb dX1_wastedServings_23 (by decide) (fun c_4 => ?_) (fun c_4 => ?_)
        · rw [if_pos c_4] at hR
          exact hk x3_19 _ _  hR hP hD hS ls (lv_sub hl [0] rfl)
        · rw [if_neg c_4] at hR
          have hfu := fuelS hfu c_4
          refine lv_aload_n hx hb dX1_wastedServings_26 rfl (lv_at hl 3 rfl) ?_
          refine va_get (D := (dC, dI)) (ci := 5) (v := .ref (aS 11)) (C := RX5) (T := TX5) (N := 12) hx hb hts hin5 hown hK hP 3 rfl rfl 11 (by decide) (hw_ hts 2 rfl) (fun _ h9 => h9) rfl dX1_wastedServings_27 ?_
          refine lv_iload hx hb dX1_wastedServings_30 (lv_at hl 1 rfl) ?_
          refine va_calli (va_runSN (As := [.ref (aS 11), .int x4_19]) (rest := []) ⟨hx, hb, hml, hown, hts⟩ (met_X6_at l dC dI cI cZ cS (aS 11) 84 (by decide) (S 11) H2.size x4_19) ⟨va_cnB 2 hts ggX1_wastedServings_X6_at rfl rfl rfl (hN_5 hN) (hw_ hts 5 rfl) (by decide +kernel) ⟨Nat.le_of_ble_eq_true rfl, Nat.le_of_ble_eq_true rfl⟩, (hw_ hts 4 rfl), trivial⟩ (pS (wc := [((aS 11), .inl (cI, 84, .inl (S 11)))]) hK hP hD hN [13] rfl (by decide)) rfl rfl hl.1 rfl (lv_room (Nat.le_of_ble_eq_true rfl)) dX1_wastedServings_32 ⟨Nat.zero_le _, Nat.zero_le _⟩) hS (fun q _ h => a0_in hS hA q h) (a0_in hS hA) (fun r5 u t H3 locs ht hvm hw hB hz1 hk1 hS => ?_)
          subst hw
          have hP := rdk hP hk1
          refine lv_iload_n hx hb dX1_wastedServings_35 rfl (lv_at hl 4 rfl) ?_
          refine lv_icmp_ne (tgt := 54) hx hb dX1_wastedServings_36 (by decide) (fun c_6 => ?_) (fun c_6 => ?_)
          · rw [if_neg c_6] at hR
            refine lv_iinc (v := (x4_19 + 1)) (lv' := [(4, .int (x4_19 + 1)), (3, .int x3_19), (0, .ref (aL 0)), (1, .ref (aS 0)), (2, .int p2)]) hx hb dX1_wastedServings_54 hl (k := 1) rfl rfl (by decide) rfl (fun ls hl => ?_)
            refine lv_goto (tgt := 19) hx hb dX1_wastedServings_57 (by decide) ?_
            exact ih x3_19 (x4_19 + 1) _ _ hfu hR hP hD hS ls (lv_sub hl [1, 0, 2, 3, 4] rfl)
          · rw [if_pos c_6] at hR
            refine lv_aload_n hx hb dX1_wastedServings_39 rfl (lv_at hl 2 rfl) ?_
            refine va_get (D := (dC, dI)) (ci := 1) (v := .ref (aL 2)) (C := RX1) (T := TX1) (N := 2) hx hb hts hin1 hown hK hP 0 rfl rfl 1 (by decide) (hw_ hts 3 rfl) (fun _ h9 => h9) rfl dX1_wastedServings_40 ?_
            refine lv_iload hx hb dX1_wastedServings_43 (lv_at hl 1 rfl) ?_
            refine va_calli (va_runSN (As := [.ref (aL 2), .int x4_19]) (rest := []) ⟨hx, hb, hml, hown, hts⟩ (met_X6_at l dC dI cI cZ cS (aL 2) 84 (by decide) (Y 1) H3.size x4_19) ⟨va_cnB 2 hts ggX1_wastedServings_X6_at rfl rfl rfl (hN_5 hN) (hw_ hts 5 rfl) (by decide +kernel) ⟨Nat.le_of_ble_eq_true rfl, Nat.le_of_ble_eq_true rfl⟩, (hw_ hts 4 rfl), trivial⟩ (pS (wc := [((aL 2), .inl (cI, 84, .inl (Y 1)))]) hK hP hD hN [2] rfl (by decide)) rfl rfl hl.1 rfl (lv_room (Nat.le_of_ble_eq_true rfl)) dX1_wastedServings_45 ⟨Nat.zero_le _, Nat.zero_le _⟩) hS (fun q _ h => a0_in hS hA q h) (a0_in hS hA) (fun r7 u t H4 locs ht hvm hw hB hz1 hk1 hS => ?_)
            subst hw
            have hP := rdk hP hk1
            refine lv_if_ne (tgt := 54) hx hb dX1_wastedServings_48 (by decide) (fun c_8 => ?_) (fun c_8 => ?_)
            · rw [if_neg c_8] at hR
              refine lv_iinc (v := (x4_19 + 1)) (lv' := [(4, .int (x4_19 + 1)), (3, .int x3_19), (0, .ref (aL 0)), (1, .ref (aS 0)), (2, .int p2)]) hx hb dX1_wastedServings_54 hl (k := 1) rfl rfl (by decide) rfl (fun ls hl => ?_)
              refine lv_goto (tgt := 19) hx hb dX1_wastedServings_57 (by decide) ?_
              exact ih x3_19 (x4_19 + 1) _ _ hfu hR hP hD hS ls (lv_sub hl [1, 0, 2, 3, 4] rfl)
            · rw [if_pos c_8] at hR
              refine lv_iinc (v := (x3_19 + 1)) (lv' := [(3, .int (x3_19 + 1)), (4, .int x4_19), (0, .ref (aL 0)), (1, .ref (aS 0)), (2, .int p2)]) hx hb dX1_wastedServings_51 hl (k := 0) rfl rfl (by decide) rfl (fun ls hl => ?_)
              refine lv_iinc (v := (x4_19 + 1)) (lv' := [(4, .int (x4_19 + 1)), (3, .int (x3_19 + 1)), (0, .ref (aL 0)), (1, .ref (aS 0)), (2, .int p2)]) hx hb dX1_wastedServings_54 hl (k := 1) rfl rfl (by decide) rfl (fun ls hl => ?_)
              refine lv_goto (tgt := 19) hx hb dX1_wastedServings_57 (by decide) ?_
              exact ih (x3_19 + 1) (x4_19 + 1) _ _ hfu hR hP hD hS ls (lv_sub hl [1, 0, 2, 3, 4] rfl)
    refine LOOP19 (fun x3_19 => x3_19) (fun x3_19 H2 locs hR hP hD hS ls hl => ?_) 84 (0 : Int32) (0 : Int32) _ _ (by decide) hR hP hD hS ls (lv_sub hl [1, 0, 2, 3, 4] rfl)
    try dsimp only at hR
    refine lv_iload_n hx hb dX1_wastedServings_60 rfl (lv_at hl 0 rfl) ?_
    exact W.iret (v := x3_19) hx hb hr (fun t ht hW => ⟨⟨x3_19, (), rfl, hR, trivial⟩, hS.F ht⟩) hS.2.2 dX1_wastedServings_61
  · rw [if_pos c_2] at hR
    refine lv_iconst (v := (0 : Int32)) hx hb dX1_wastedServings_12 (by decide) ?_
    exact W.iret (v := (0 : Int32)) hx hb hr (fun t ht hW => ⟨⟨(0 : Int32), (), rfl, hR, trivial⟩, hS.F ht⟩) hS.2.2 dX1_wastedServings_13
abbrev rm_X1_wastedOf : Room := { frames := 4, cells := 0, slots := 0, locals := 101 }
abbrev q_X1_wastedOf (dC : Nat → ClassId) (dI : Nat → Nat → Nat) (cI cZ cS : ClassId) (aL : Nat → Nat) (aS : Nat → Nat) (S : Pic) (res : Int32 × Pic) (A : Nat → Prop) : Array Value → State → Outcome → State → Prop := va_Qi (fun (r : Int32) (u : Pic) => (r, u) = res) (fun u t => va_P (dC, dI) vwCl (wLo cI aL u ++ (wSt cI aS S)) t.heap) A
set_option maxHeartbeats 4000000 in
set_option maxRecDepth 100000 in
theorem met_X1_wastedOf (l : Launch) (dC : Nat → ClassId) (dI : Nat → Nat → Nat) (cI cZ cS : ClassId) (aL : Nat → Nat) (aS : Nat → Nat) (Y : Pic) (S : Pic) (sz : Nat) (p2 : Int32) : Met l yX1_wastedOf wsX1_wastedOf rm_X1_wastedOf (va_Pc [.ref (aL 0), .ref (aS 0), .int p2] (pW (dC, dI) (tyS cI cZ cS) (wLo cI aL Y ++ (wSt cI aS S)) sz)) (q_X1_wastedOf dC dI cI cZ cS aL aS S (f1_wastedOf Y S p2) (va_A (wLo cI aL Y ++ (wSt cI aS S)) sz)) 0 0 (va_A (wLo cI aL Y ++ (wSt cI aS S)) sz) := by
  refine Met.ofW (cc := cX1_wastedOf) (maxL := 3) (ret := (some .int)) (by decide) rfl ?_
  intro p e s m args below meth c s₁ B hml hv
  obtain ⟨rfl, hsz, hP, hK, hD0, hN⟩ := hv
  have hx := B.exec
  have hb := B.bytes
  have hr := B.returns
  have hts := atoms_spec (ws := wsX1_wastedOf) B.pre
  have hown : s.vm.findClass RX1 = some m.cls := findClass_of_methodNamed B.named
  have hlocks := B.notSynchronized
  subst hsz
  have hD := hD0.self (sz := s.heap.size)
  generalize hAe : va_A (wLo cI aL Y ++ (wSt cI aS S)) s.heap.size = A at hD ⊢
  have hA : ∀ q : Nat, s.heap.size ≤ q → A q := fun q h => by rw [← hAe]; exact Or.inr h
  have hS : va_S A s.heap s.heap [] := va_S.rf
  have hP : va_P (dC, dI) vwCl (wLo cI aL Y ++ (wSt cI aS S)) s.heap := hP
  generalize hR : f1_wastedOf Y S p2 = res
  rw [f1_wastedOf] at hR
  have hl := lv_entry ([.ref (aL 0), .ref (aS 0), .int p2]) (n := 3) (Nat.le_of_ble_eq_true rfl)
  rw [lg_entry_eq]
  generalize (lg_sl ([.ref (aL 0), .ref (aS 0), .int p2]) ++ List.replicate (3 - (lg_sl ([.ref (aL 0), .ref (aS 0), .int p2])).length) Slot.unset).toArray = ls at hl ⊢
  have hl : lv_has ls 3 [(0, .ref (aL 0)), (1, .ref (aS 0)), (2, .int p2)] := hl
  refine lv_aload_n hx hb dX1_wastedOf_0 rfl (lv_at hl 0 rfl) ?_
  refine lv_aload_n hx hb dX1_wastedOf_1 rfl (lv_at hl 1 rfl) ?_
  have hF := va_free (wc := wLo cI aL Y ++ (wSt cI aS S)) hD hS hA [0, 1, 2, 3, 4, 5, 6, 7, 8, 9, 10, 11, 12, 13] rfl
  refine va_calli (va_runV (As := [.ref (aS 0)]) (rest := []) ⟨hx, hb, hml, hown, hts⟩ (met_X1_pairAll l dC dI cI cZ cS aL aS Y S s.heap.size) (cwV 1 hts gX1_wastedOf_X1_pairAll rfl rfl rfl (by decide +kernel) ⟨Nat.le_of_ble_eq_true rfl, Nat.le_of_ble_eq_true rfl⟩) (pV (wc := wLo cI aL Y ++ (wSt cI aS S)) (ci := 1) (q0 := 0) hK hP hD hN [0, 1, 2, 3, 4, 5, 6, 7, 8, 9, 10, 11, 12, 13] rfl (by decide) rfl rfl) rfl rfl hl.1 rfl (lv_room (Nat.le_of_ble_eq_true rfl)) dX1_wastedOf_2 ⟨Nat.zero_le _, Nat.zero_le _⟩) hS (fun q _ h => hF q h) hF (fun r1 u2 t H1 locs ht hvm hw hB hz1 hk1 hS => ?_)
  obtain ⟨hw, nb3⟩ := hw
  try dsimp only at hw hB
  rw [ht] at hB
  have hR := bd2_n hw hR
  have hP := wrk (w2 := wLo cI aL u2 ++ (wSt cI aS S)) hP hD [0, 1, 2, 3, 4, 5, 6, 7, 8, 9, 10, 11, 12, 13] rfl (by decide) hk1 hB rfl rfl
  have hD := D_addr (w1 := wLo cI aL u2 ++ (wSt cI aS S)) hD rfl
  refine lv_pop hx hb dX1_wastedOf_5 rfl ?_
  refine lv_aload_n hx hb dX1_wastedOf_6 rfl (lv_at hl 0 rfl) ?_
  refine lv_aload_n hx hb dX1_wastedOf_7 rfl (lv_at hl 1 rfl) ?_
  refine lv_iload_n hx hb dX1_wastedOf_8 rfl (lv_at hl 2 rfl) ?_
  refine va_calli (va_runV (As := [.ref (aS 0), .int p2]) (rest := []) ⟨hx, hb, hml, hown, hts⟩ (met_X1_wastedServings l dC dI cI cZ cS aL aS u2 S H1.size p2) (cwV 2 hts gX1_wastedOf_X1_wastedServings rfl rfl rfl (by decide +kernel) ⟨Nat.le_of_ble_eq_true rfl, Nat.le_of_ble_eq_true rfl⟩) (pV (wc := wLo cI aL u2 ++ (wSt cI aS S)) (ci := 1) (q0 := 0) hK hP hD hN [0, 1, 2, 3, 4, 5, 6, 7, 8, 9, 10, 11, 12, 13] rfl (by decide) rfl rfl) rfl rfl hl.1 rfl (lv_room (Nat.le_of_ble_eq_true rfl)) dX1_wastedOf_9 ⟨Nat.zero_le _, Nat.zero_le _⟩) hS (fun q _ h => a0_in hS hA q h) (a0_in hS hA) (fun r4 u t H2 locs ht hvm hw hB hz1 hk1 hS => ?_)
  have hR := bd_n hw hR
  have hP := rdk hP hk1
  exact W.iret (v := r4) hx hb hr (fun t ht hW => ⟨⟨r4, u2, rfl, hR, P_at ht hP⟩, hS.F ht⟩) hS.2.2 dX1_wastedOf_12
abbrev rm_X1_wastedOfAll : Room := { frames := 4, cells := 0, slots := 0, locals := 101 }
abbrev q_X1_wastedOfAll (dC : Nat → ClassId) (dI : Nat → Nat → Nat) (cI cZ cS : ClassId) (aL : Nat → Nat) (aS : Nat → Nat) (S : Pic) (res : Int32 × Pic) (A : Nat → Prop) : Array Value → State → Outcome → State → Prop := va_Qi (fun (r : Int32) (u : Pic) => (r, u) = res) (fun u t => va_P (dC, dI) vwCl (wLo cI aL u ++ (wSt cI aS S)) t.heap) A
set_option maxHeartbeats 4000000 in
set_option maxRecDepth 100000 in
theorem met_X1_wastedOfAll (l : Launch) (dC : Nat → ClassId) (dI : Nat → Nat → Nat) (cI cZ cS : ClassId) (aL : Nat → Nat) (aS : Nat → Nat) (Y : Pic) (S : Pic) (sz : Nat)  : Met l yX1_wastedOfAll wsX1_wastedOfAll rm_X1_wastedOfAll (va_Pc [.ref (aL 0), .ref (aS 0)] (pW (dC, dI) (tyS cI cZ cS) (wLo cI aL Y ++ (wSt cI aS S)) sz)) (q_X1_wastedOfAll dC dI cI cZ cS aL aS S (f1_wastedOfAll Y S) (va_A (wLo cI aL Y ++ (wSt cI aS S)) sz)) 0 0 (va_A (wLo cI aL Y ++ (wSt cI aS S)) sz) := by
  refine Met.ofW (cc := cX1_wastedOfAll) (maxL := 4) (ret := (some .int)) (by decide) rfl ?_
  intro p e s m args below meth c s₁ B hml hv
  obtain ⟨rfl, hsz, hP, hK, hD0, hN⟩ := hv
  have hx := B.exec
  have hb := B.bytes
  have hr := B.returns
  have hts := atoms_spec (ws := wsX1_wastedOfAll) B.pre
  have hown : s.vm.findClass RX1 = some m.cls := findClass_of_methodNamed B.named
  have hlocks := B.notSynchronized
  subst hsz
  have hD := hD0.self (sz := s.heap.size)
  generalize hAe : va_A (wLo cI aL Y ++ (wSt cI aS S)) s.heap.size = A at hD ⊢
  have hA : ∀ q : Nat, s.heap.size ≤ q → A q := fun q h => by rw [← hAe]; exact Or.inr h
  have hS : va_S A s.heap s.heap [] := va_S.rf
  have hP : va_P (dC, dI) vwCl (wLo cI aL Y ++ (wSt cI aS S)) s.heap := hP
  generalize hR : f1_wastedOfAll Y S = res
  rw [f1_wastedOfAll] at hR
  have hin5 : ∀ w ∈ wsX50, w ∈ wsX1_wastedOfAll := by decide +kernel
  have hl := lv_entry ([.ref (aL 0), .ref (aS 0)]) (n := 4) (Nat.le_of_ble_eq_true rfl)
  rw [lg_entry_eq]
  generalize (lg_sl ([.ref (aL 0), .ref (aS 0)]) ++ List.replicate (4 - (lg_sl ([.ref (aL 0), .ref (aS 0)])).length) Slot.unset).toArray = ls at hl ⊢
  have hl : lv_has ls 4 [(0, .ref (aL 0)), (1, .ref (aS 0))] := hl
  refine lv_aload_n hx hb dX1_wastedOfAll_0 rfl (lv_at hl 0 rfl) ?_
  refine lv_aload_n hx hb dX1_wastedOfAll_1 rfl (lv_at hl 1 rfl) ?_
  have hF := va_free (wc := wLo cI aL Y ++ (wSt cI aS S)) hD hS hA [0, 1, 2, 3, 4, 5, 6, 7, 8, 9, 10, 11, 12, 13] rfl
  refine va_calli (va_runV (As := [.ref (aS 0)]) (rest := []) ⟨hx, hb, hml, hown, hts⟩ (met_X1_pairAll l dC dI cI cZ cS aL aS Y S s.heap.size) (cwV 1 hts gX1_wastedOfAll_X1_pairAll rfl rfl rfl (by decide +kernel) ⟨Nat.le_of_ble_eq_true rfl, Nat.le_of_ble_eq_true rfl⟩) (pV (wc := wLo cI aL Y ++ (wSt cI aS S)) (ci := 1) (q0 := 0) hK hP hD hN [0, 1, 2, 3, 4, 5, 6, 7, 8, 9, 10, 11, 12, 13] rfl (by decide) rfl rfl) rfl rfl hl.1 rfl (lv_room (Nat.le_of_ble_eq_true rfl)) dX1_wastedOfAll_2 ⟨Nat.zero_le _, Nat.zero_le _⟩) hS (fun q _ h => hF q h) hF (fun r1 u2 t H1 locs ht hvm hw hB hz1 hk1 hS => ?_)
  obtain ⟨hw, nb3⟩ := hw
  try dsimp only at hw hB
  rw [ht] at hB
  have hR := bd2_n hw hR
  have hP := wrk (w2 := wLo cI aL u2 ++ (wSt cI aS S)) hP hD [0, 1, 2, 3, 4, 5, 6, 7, 8, 9, 10, 11, 12, 13] rfl (by decide) hk1 hB rfl rfl
  have hD := D_addr (w1 := wLo cI aL u2 ++ (wSt cI aS S)) hD rfl
  refine lv_pop hx hb dX1_wastedOfAll_5 rfl ?_
  refine lv_iconst (v := (0 : Int32)) hx hb dX1_wastedOfAll_6 (by decide) ?_
  refine lv_istore_n (lv' := [(2, .int (0 : Int32)), (0, .ref (aL 0)), (1, .ref (aS 0))]) hx hb dX1_wastedOfAll_7 rfl hl (by decide) rfl (fun ls hl => ?_)
  refine lv_iconst (v := (0 : Int32)) hx hb dX1_wastedOfAll_8 (by decide) ?_
  refine lv_istore_n (lv' := [(3, .int (0 : Int32)), (2, .int (0 : Int32)), (0, .ref (aL 0)), (1, .ref (aS 0))]) hx hb dX1_wastedOfAll_9 rfl hl (by decide) rfl (fun ls hl => ?_)
  have LOOP10 : ∀ (k : Int32 → Pic → (Int32 × Pic)), (∀ (x2_10 : Int32) (Y_10 : Pic) (H2 : Heap) (locs : List Loc), k x2_10 Y_10 = res → va_P (dC, dI) vwCl (wLo cI aL Y_10 ++ (wSt cI aS S)) H2 → va_D A (wLo cI aL Y_10 ++ (wSt cI aS S)) → va_S A s.heap H2 locs → ∀ (ls : Array Slot), lv_has ls 4 [(2, .int x2_10)] → W p l e (headSpec wsX1_wastedOfAll rm_X1_wastedOfAll).room s m ([.ref (aL 0), .ref (aS 0)] : List Value).toArray below meth c H2 locs 0 0 (MQ below (q_X1_wastedOfAll dC dI cI cZ cS aL aS S res A) ([.ref (aL 0), .ref (aS 0)] : List Value).toArray s 0 0 A) (F0 m 33 ls [])) → ∀ (nf : Nat) (x2_10 : Int32) (x3_10 : Int32) (Y_10 : Pic) (H2 : Heap) (locs : List Loc), (((S 0) 0)).toInt - (x3_10).toInt ≤ (nf : Int) → f1_wastedOfAll_L10 S nf x2_10 x3_10 Y_10 k = res → va_P (dC, dI) vwCl (wLo cI aL Y_10 ++ (wSt cI aS S)) H2 → va_D A (wLo cI aL Y_10 ++ (wSt cI aS S)) → va_S A s.heap H2 locs → ∀ (ls : Array Slot), lv_has ls 4 [(2, .int x2_10), (3, .int x3_10), (0, .ref (aL 0)), (1, .ref (aS 0))] → W p l e (headSpec wsX1_wastedOfAll rm_X1_wastedOfAll).room s m ([.ref (aL 0), .ref (aS 0)] : List Value).toArray below meth c H2 locs 0 0 (MQ below (q_X1_wastedOfAll dC dI cI cZ cS aL aS S res A) ([.ref (aL 0), .ref (aS 0)] : List Value).toArray s 0 0 A) (F0 m 10 ls []) := by
    intro k hk nf
    induction nf with
    | zero =>
      intro x2_10 x3_10 Y_10 H2 locs hfu hR hP hD hS ls hl
      rw [f1_wastedOfAll_L10] at hR
      refine lv_iload_n hx hb dX1_wastedOfAll_10 rfl (lv_at hl 1 rfl) ?_
      refine lv_aload_n hx hb dX1_wastedOfAll_11 rfl (lv_at hl 3 rfl) ?_
      refine va_get (D := (dC, dI)) (ci := 5) (v := .int ((S 0) 0)) (C := RX5) (T := TX5) (N := 12) hx hb hts hin5 hown hK hP 3 rfl rfl 0 (by decide) (hw_ hts 1 rfl) (fun _ h9 => h9) rfl dX1_wastedOfAll_12 ?_
      refine lv_icmp_ge (tgt := 33) hx hb dX1_wastedOfAll_15 (by decide) (fun c_4 => ?_) (fun c_4 => ?_)
      · skip
        exact hk x2_10 Y_10 _ _  hR hP hD hS ls (lv_sub hl [0] rfl)
      · exact (fuel0 hfu c_4).elim
    | succ nf ih =>
      intro x2_10 x3_10 Y_10 H2 locs hfu hR hP hD hS ls hl
      rw [f1_wastedOfAll_L10] at hR
      refine lv_iload_n hx hb dX1_wastedOfAll_10 rfl (lv_at hl 1 rfl) ?_
      refine lv_aload_n hx hb dX1_wastedOfAll_11 rfl (lv_at hl 3 rfl) ?_
      refine va_get (D := (dC, dI)) (ci := 5) (v := .int ((S 0) 0)) (C := RX5) (T := TX5) (N := 12) hx hb hts hin5 hown hK hP 3 rfl rfl 0 (by decide) (hw_ hts 1 rfl) (fun _ h9 => h9) rfl dX1_wastedOfAll_12 ?_
      refine lv_icmp_ge (tgt := 33) hx hb dX1_wastedOfAll_15 (by decide) (fun c_5 => ?_) (fun c_5 => ?_)
      · rw [if_pos c_5] at hR
        exact hk x2_10 Y_10 _ _  hR hP hD hS ls (lv_sub hl [0] rfl)
      · rw [if_neg c_5] at hR
        have hfu := fuelS hfu c_5
        refine lv_iload_n hx hb dX1_wastedOfAll_18 rfl (lv_at hl 0 rfl) ?_
        refine lv_aload_n hx hb dX1_wastedOfAll_19 rfl (lv_at hl 2 rfl) ?_
        refine lv_aload_n hx hb dX1_wastedOfAll_20 rfl (lv_at hl 3 rfl) ?_
        refine lv_iload_n hx hb dX1_wastedOfAll_21 rfl (lv_at hl 1 rfl) ?_
        refine va_calli (va_runV (As := [.ref (aS 0), .int x3_10]) (rest := [.int x2_10]) ⟨hx, hb, hml, hown, hts⟩ (met_X1_wastedServings l dC dI cI cZ cS aL aS Y_10 S H2.size x3_10) (cwV 2 hts gX1_wastedOfAll_X1_wastedServings rfl rfl rfl (by decide +kernel) ⟨Nat.le_of_ble_eq_true rfl, Nat.le_of_ble_eq_true rfl⟩) (pV (wc := wLo cI aL Y_10 ++ (wSt cI aS S)) (ci := 1) (q0 := 0) hK hP hD hN [0, 1, 2, 3, 4, 5, 6, 7, 8, 9, 10, 11, 12, 13] rfl (by decide) rfl rfl) rfl rfl hl.1 rfl (lv_room (Nat.le_of_ble_eq_true rfl)) dX1_wastedOfAll_22 ⟨Nat.zero_le _, Nat.zero_le _⟩) hS (fun q _ h => a0_in hS hA q h) (a0_in hS hA) (fun r6 u t H3 locs ht hvm hw hB hz1 hk1 hS => ?_)
        have hR := bd_n hw hR
        have hP := rdk hP hk1
        refine lv_iadd hx hb dX1_wastedOfAll_25 ?_
        refine lv_topi (fun v7 hv7 => ?_)
        have hR := bd_n hv7 hR
        refine lv_istore_n (lv' := [(2, .int v7), (3, .int x3_10), (0, .ref (aL 0)), (1, .ref (aS 0))]) hx hb dX1_wastedOfAll_26 rfl hl (by decide) rfl (fun ls hl => ?_)
        refine lv_iinc (v := (x3_10 + 1)) (lv' := [(3, .int (x3_10 + 1)), (2, .int v7), (0, .ref (aL 0)), (1, .ref (aS 0))]) hx hb dX1_wastedOfAll_27 hl (k := 1) rfl rfl (by decide) rfl (fun ls hl => ?_)
        refine lv_goto (tgt := 10) hx hb dX1_wastedOfAll_30 (by decide) ?_
        exact ih v7 (x3_10 + 1) Y_10 _ _ hfu hR hP hD hS ls (lv_sub hl [1, 0, 2, 3] rfl)
  refine LOOP10 (fun x2_10 Y_10 => (x2_10, Y_10)) (fun x2_10 Y_10 H2 locs hR hP hD hS ls hl => ?_) (fuelN (0 : Int32) ((S 0) 0)) (0 : Int32) (0 : Int32) u2 _ _ (fuelE _ _) hR hP hD hS ls (lv_sub hl [1, 0, 2, 3] rfl)
  try dsimp only at hR
  refine lv_iload_n hx hb dX1_wastedOfAll_33 rfl (lv_at hl 0 rfl) ?_
  exact W.iret (v := x2_10) hx hb hr (fun t ht hW => ⟨⟨x2_10, Y_10, rfl, hR, P_at ht hP⟩, hS.F ht⟩) hS.2.2 dX1_wastedOfAll_34
