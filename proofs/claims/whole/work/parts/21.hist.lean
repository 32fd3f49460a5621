abbrev rm_X0_placeOf : Room := { frames := 0, cells := 0, slots := 0, locals := 0 }
abbrev q_X0_placeOf (dC : Nat → ClassId) (dI : Nat → Nat → Nat) (cI cZ cS : ClassId) (aH : Nat → Nat) (ah : Nat → Nat → Nat)  (res : Option Int32) (A : Nat → Prop) : Array Value → State → Outcome → State → Prop := va_Qq (fun (r : Option Nat) (u : Unit) => r = res.map (fun e => ah (ix e) 0)) (fun _ _ => True) A
set_option maxHeartbeats 4000000 in
set_option maxRecDepth 100000 in
theorem met_X0_placeOf (l : Launch) (dC : Nat → ClassId) (dI : Nat → Nat → Nat) (cI cZ cS : ClassId) (aH : Nat → Nat) (ah : Nat → Nat → Nat) (G : Pic) (sz : Nat) (p1 : Int32) : Met l yX0_placeOf wsX0_placeOf rm_X0_placeOf (va_Pc [.ref (aH 0), .int p1] (pW (dC, dI) (tyS cI cZ cS) (wHi cS aH ah G) sz)) (q_X0_placeOf dC dI cI cZ cS aH ah (f0_placeOf G p1) (a0 sz)) 0 0 (a0 sz) := by
  refine Met.ofW (cc := cX0_placeOf) (maxL := 3) (ret := (some (.object "FatigueMenus$State"))) (by decide) rfl ?_
  intro p e s m args below meth c s₁ B hml hv
  obtain ⟨rfl, hsz, hP, hK, hD0, hN⟩ := hv
  have hx := B.exec
  have hb := B.bytes
  have hr := B.returns
  have hts := atoms_spec (ws := wsX0_placeOf) B.pre
  have hown : s.vm.findClass RX0 = some m.cls := findClass_of_methodNamed B.named
  have hlocks := B.notSynchronized
  subst hsz
  have hD := hD0
  have hA : ∀ q : Nat, s.heap.size ≤ q → a0 s.heap.size q := fun q h => Or.inr h
  have hS : va_S (a0 s.heap.size) s.heap s.heap [] := va_S.rf
  have hP : va_P (dC, dI) vwCl (wHi cS aH ah G) s.heap := hP
  generalize hR : f0_placeOf G p1 = res
  rw [f0_placeOf] at hR
  have hin0 : ∀ w ∈ wsX00, w ∈ wsX0_placeOf := by decide +kernel
  have hl := lv_entry ([.ref (aH 0), .int p1]) (n := 3) (Nat.le_of_ble_eq_true rfl)
  rw [lg_entry_eq]
  generalize (lg_sl ([.ref (aH 0), .int p1]) ++ List.replicate (3 - (lg_sl ([.ref (aH 0), .int p1])).length) Slot.unset).toArray = ls at hl ⊢
  have hl : lv_has ls 3 [(0, .ref (aH 0)), (1, .int p1)] := hl
  refine lv_aload_n hx hb dX0_placeOf_0 rfl (lv_at hl 0 rfl) ?_
  refine va_get (D := (dC, dI)) (ci := 0) (v := .int ((G 1) 0)) (C := RX0) (T := TX0) (N := 3) hx hb hts hin0 hown hK hP 0 rfl rfl 1 (by decide) (hw_ hts 1 rfl) (fun _ h9 => h9) rfl dX0_placeOf_1 ?_
  refine lv_iload_n hx hb dX0_placeOf_4 rfl (lv_at hl 1 rfl) ?_
  refine lv_iadd hx hb dX0_placeOf_5 ?_
  refine lv_bipush (v := (6 : Int32)) hx hb dX0_placeOf_6 (by decide) ?_
  refine lv_irem hx hb dX0_placeOf_8 (by decide) ?_
  refine lv_topi (fun v1 hv1 => ?_)
  have hR := bd_n hv1 hR
  refine lv_istore_n (lv' := [(2, .int v1), (0, .ref (aH 0)), (1, .int p1)]) hx hb dX0_placeOf_9 rfl hl (by decide) rfl (fun ls hl => ?_)
  refine lv_iload_n hx hb dX0_placeOf_10 rfl (lv_at hl 0 rfl) ?_
  refine lv_if_lt (tgt := 32) hx hb dX0_placeOf_11 (by decide) (fun c_2 => ?_) (fun c_2 => ?_)
  · rw [if_pos c_2] at hR
    refine lv_null hx hb dX0_placeOf_32 ?_
    exact W.aret (v := va_rf none) hx hb hr (Or.inl ⟨_, rfl⟩) (va_rf_or _) (fun t ht hW => ⟨⟨none, (), rfl, (by rw [← hR]; rfl), trivial⟩, hS.F ht⟩) hS.2.2 dX0_placeOf_33
  · rw [if_neg c_2] at hR
    refine lv_iload_n hx hb dX0_placeOf_14 rfl (lv_at hl 0 rfl) ?_
    refine lv_aload_n hx hb dX0_placeOf_15 rfl (lv_at hl 1 rfl) ?_
    refine va_get (D := (dC, dI)) (ci := 0) (v := .ref (aH 1)) (C := RX0) (T := TX0) (N := 3) hx hb hts hin0 hown hK hP 0 rfl rfl 0 (by decide) (hw_ hts 2 rfl) (fun _ h9 => h9) rfl dX0_placeOf_16 ?_
    refine va_alen (v := nI 6) hx hb hK hP 1 2 rfl rfl rfl dX0_placeOf_19 ?_
    refine lv_icmp_ge (tgt := 32) hx hb dX0_placeOf_20 (by decide) (fun c_3 => ?_) (fun c_3 => ?_)
    · rw [if_pos c_3] at hR
      refine lv_null hx hb dX0_placeOf_32 ?_
      exact W.aret (v := va_rf none) hx hb hr (Or.inl ⟨_, rfl⟩) (va_rf_or _) (fun t ht hW => ⟨⟨none, (), rfl, (by rw [← hR]; rfl), trivial⟩, hS.F ht⟩) hS.2.2 dX0_placeOf_33
    · rw [if_neg c_3] at hR
      refine lv_aload_n hx hb dX0_placeOf_23 rfl (lv_at hl 1 rfl) ?_
      refine va_get (D := (dC, dI)) (ci := 0) (v := .ref (aH 1)) (C := RX0) (T := TX0) (N := 3) hx hb hts hin0 hown hK hP 0 rfl rfl 0 (by decide) (hw_ hts 2 rfl) (fun _ h9 => h9) rfl dX0_placeOf_24 ?_
      refine lv_iload_n hx hb dX0_placeOf_27 rfl (lv_at hl 0 rfl) ?_
      refine va_aldq (C := RX5) (f := fun i => some (ah i 0)) hx hb hK hP 1 2 rfl rfl (vpin_g (by assumption) (by assumption) (by decide)) dX0_placeOf_28 ?_
      refine W.eq (g2 := F0 m 29 ls [.ref (ah (ix v1) 0)]) rfl ?_
      refine lv_goto (tgt := 33) hx hb dX0_placeOf_29 (by decide) ?_
      exact W.aret (v := va_rf (some (ah (ix v1) 0))) hx hb hr (Or.inl ⟨_, rfl⟩) (va_rf_or _) (fun t ht hW => ⟨⟨(some (ah (ix v1) 0)), (), rfl, (by rw [← hR]; rfl), trivial⟩, hS.F ht⟩) hS.2.2 dX0_placeOf_33
theorem wrk2 {A0 : Nat → Prop} {D : va_G} {cl : List vw_C} {ws wc wr w1 w2 : va_W} {H H1 : Heap} (hP : va_P D cl ws H) (hD : va_D A0 ws) (isC isR : List Nat) (hC : isC.map (fun i => ws[i]?) = wc.map some) (hR : isR.map (fun i => ws[i]?) = wr.map some) (hdis : ∀ i ∈ isR, i ∉ isC) (hk : ∀ q : Nat, q < H.size → ¬ va_A wc H.size q → H1[q]? = H[q]?) (hP1 : va_P D cl w1 H1) (perm : List Nat) (hq : perm.map (fun i => (wr ++ w1)[i]?) = w2.map some) : va_P D cl w2 H1 := by
  have at' : ∀ {is : List Nat} {w : va_W}, is.map (fun i => ws[i]?) = w.map some → ∀ (k : Nat) (q : Nat × va_E), w[k]? = some q → ∃ i, is[k]? = some i ∧ ws[i]? = some q := by
    intro is w h k q hk
    have h1 : (is.map (fun i => ws[i]?))[k]? = some (some q) := by rw [h, List.getElem?_map, hk]; rfl
    rw [List.getElem?_map] at h1
    cases hi : is[k]? with
    | none => rw [hi] at h1; cases h1
    | some i => rw [hi] at h1; exact ⟨i, rfl, Option.some.inj h1⟩
  have hPr : va_P D cl wr H1 := by
    intro k q hq
    obtain ⟨i, hi, hw⟩ := at' hR k q hq
    refine (hP i q hw).kept (hk q.1 (vx_lt hP hw) ?_)
    rintro (⟨j, e, hj⟩ | h)
    · obtain ⟨i2, hi2, hw2⟩ := at' hC j (q.1, e) hj
      have := hD.1 i i2 q (q.1, e) hw hw2 rfl
      subst this
      exact hdis i (List.mem_of_getElem? hi) (List.mem_of_getElem? hi2)
    · exact Nat.not_le.mpr (vx_lt hP hw) h
  exact P_map (hPr.app hP1) perm hq
theorem placeOf_in {G : Pic} {p e : Int32} (h : f0_placeOf G p = some e) : ix e < 6 := by
  rw [f0_placeOf] at h
  have h := bd_e h
  generalize ((G 1) 0 + p) - ((G 1) 0 + p) / (6 : Int32) * (6 : Int32) = v at h
  by_cases h0 : v < 0
  · rw [if_pos h0] at h; cases h
  · rw [if_neg h0] at h
    by_cases h1 : nI 6 ≤ v
    · rw [if_pos h1] at h; cases h
    · rw [if_neg h1] at h
      have h2 : v = e := Option.some.inj h
      rw [h2] at h0 h1
      have := vpin_g h0 h1 (by decide)
      exact Nat.not_le.mp fun q => this (Or.inr q)
def plZ (j : Nat) : List Nat := (List.range 11).map (fun k => 2 + 11 * j + k)
/-- the other saved states, and where they lie -/
def zOth (j : Nat) : List Nat := (List.range 6).filter (fun i => !(i == j))
def zR (j : Nat) : List Nat := [0, 1] ++ (zOth j).flatMap (fun i => (List.range 11).map (fun k => 2 + 11 * i + k))
def zRest (cI : ClassId) (ah : Nat → Nat → Nat) (Z : Nat → Pic) (j : Nat) : va_W := (zOth j).flatMap (fun i => wSt cI (ah i) (Z i))
/-- where a saved state lies behind the rest: the one in hand at off, the others by their order -/
def zPl (j off i : Nat) : Nat := if i = j then off else if i < j then 2 + 11 * i else 2 + 11 * (i - 1)
def zPerm1 (j : Nat) : List Nat := [0, 1] ++ (List.range 6).flatMap (fun i => (List.range 11).map (fun k => zPl j 57 i + k)) ++ (List.range 11).map (fun k => 68 + k)
def zPerm2 (j : Nat) : List Nat := [0, 1] ++ (List.range 6).flatMap (fun i => (List.range 11).map (fun k => zPl j 68 i + k)) ++ (List.range 11).map (fun k => 57 + k)
theorem six {j : Nat} (h : j < 6) : j = 0 ∨ j = 1 ∨ j = 2 ∨ j = 3 ∨ j = 4 ∨ j = 5 := by omega
section ZCUT
variable {cI cS : ClassId} {aH aS : Nat → Nat} {ah : Nat → Nat → Nat} {G S : Pic} {Z : Nat → Pic} {j : Nat}
theorem zcut1 (h : j < 6) : (plZ j ++ [68, 69, 70, 71, 72, 73, 74, 75, 76, 77, 78]).map (fun i => (wHi cS aH ah G ++ (wZs cI ah Z ++ (wSt cI aS S)))[i]?) = (wSt cI (ah j) (Z j) ++ wSt cI aS S).map some := by
  rcases six h with rfl | rfl | rfl | rfl | rfl | rfl <;> rfl
theorem znd1 (h : j < 6) : va_nd (plZ j ++ [68, 69, 70, 71, 72, 73, 74, 75, 76, 77, 78]) = true := by
  rcases six h with rfl | rfl | rfl | rfl | rfl | rfl <;> rfl
theorem zrest1 (h : j < 6) : (zR j).map (fun i => (wHi cS aH ah G ++ (wZs cI ah Z ++ (wSt cI aS S)))[i]?) = (wHi cS aH ah G ++ zRest cI ah Z j).map some := by
  rcases six h with rfl | rfl | rfl | rfl | rfl | rfl <;> rfl
theorem zdis1 (h : j < 6) : ∀ i ∈ zR j, i ∉ (plZ j ++ [68, 69, 70, 71, 72, 73, 74, 75, 76, 77, 78]) := by
  rcases six h with rfl | rfl | rfl | rfl | rfl | rfl <;> decide
theorem zj1 (h : j < 6) {u : Pic} : (zPerm1 j).map (fun i => ((wHi cS aH ah G ++ zRest cI ah Z j) ++ (wSt cI (ah j) u ++ wSt cI aS S))[i]?) = (wHi cS aH ah G ++ (wZs cI ah (va_up Z j u) ++ (wSt cI aS S))).map some := by
  rcases six h with rfl | rfl | rfl | rfl | rfl | rfl <;> rfl
theorem zrec (h : j < 6) : (wHi cS aH ah G ++ (wZs cI ah Z ++ (wSt cI aS S)))[2 + 11 * j]? = some (ah j 0, .inr (5, [.int (Z j 0 0), .ref (ah j 1), .ref (ah j 2), .ref (ah j 3), .ref (ah j 4), .ref (ah j 5), .ref (ah j 6), .int (Z j 7 0), .ref (ah j 8), .ref (ah j 9), .ref (ah j 10), .ref (ah j 11)])) := by
  rcases six h with rfl | rfl | rfl | rfl | rfl | rfl <;> rfl
theorem zcut2 (h : j < 6) : ([68, 69, 70, 71, 72, 73, 74, 75, 76, 77, 78] ++ plZ j).map (fun i => (wHi cS aH ah G ++ (wZs cI ah Z ++ (wSt cI aS S)))[i]?) = (wSt cI aS S ++ wSt cI (ah j) (Z j)).map some := by
  rcases six h with rfl | rfl | rfl | rfl | rfl | rfl <;> rfl
theorem znd2 (h : j < 6) : va_nd ([68, 69, 70, 71, 72, 73, 74, 75, 76, 77, 78] ++ plZ j) = true := by
  rcases six h with rfl | rfl | rfl | rfl | rfl | rfl <;> rfl
theorem zrest2 (h : j < 6) : (zR j).map (fun i => (wHi cS aH ah G ++ (wZs cI ah Z ++ (wSt cI aS S)))[i]?) = (wHi cS aH ah G ++ zRest cI ah Z j).map some := zrest1 h
theorem zdis2 (h : j < 6) : ∀ i ∈ zR j, i ∉ ([68, 69, 70, 71, 72, 73, 74, 75, 76, 77, 78] ++ plZ j) := by
  rcases six h with rfl | rfl | rfl | rfl | rfl | rfl <;> decide
theorem zj2 (h : j < 6) {u : Pic} : (zPerm2 j).map (fun i => ((wHi cS aH ah G ++ zRest cI ah Z j) ++ (wSt cI aS u ++ wSt cI (ah j) (Z j)))[i]?) = (wHi cS aH ah G ++ (wZs cI ah Z ++ (wSt cI aS u))).map some := by
  rcases six h with rfl | rfl | rfl | rfl | rfl | rfl <;> rfl
end ZCUT
abbrev rm_X0_save : Room := { frames := 3, cells := 0, slots := 0, locals := 68 }
abbrev q_X0_save (dC : Nat → ClassId) (dI : Nat → Nat → Nat) (cI cZ cS : ClassId) (aH : Nat → Nat) (ah : Nat → Nat → Nat) (aS : Nat → Nat) (S : Pic) (res : Pic × (Nat → Pic)) (A : Nat → Prop) : Array Value → State → Outcome → State → Prop := va_Qv (fun (u : Pic × (Nat → Pic)) => u = res) (fun u t => va_P (dC, dI) vwCl (wHi cS aH ah u.1 ++ (wZs cI ah u.2 ++ (wSt cI aS S))) t.heap) A
set_option maxHeartbeats 4000000 in
set_option maxRecDepth 100000 in
theorem met_X0_save (l : Launch) (dC : Nat → ClassId) (dI : Nat → Nat → Nat) (cI cZ cS : ClassId) (aH : Nat → Nat) (ah : Nat → Nat → Nat) (aS : Nat → Nat) (G : Pic) (Z : (Nat → Pic)) (S : Pic) (sz : Nat)  : Met l yX0_save wsX0_save rm_X0_save (va_Pc [.ref (aH 0), .ref (aS 0)] (pW (dC, dI) (tyS cI cZ cS) (wHi cS aH ah G ++ (wZs cI ah Z ++ (wSt cI aS S))) sz)) (q_X0_save dC dI cI cZ cS aH ah aS S (f0_save G Z S) (va_A (wHi cS aH ah G ++ (wZs cI ah Z ++ (wSt cI aS S))) sz)) 0 0 (va_A (wHi cS aH ah G ++ (wZs cI ah Z ++ (wSt cI aS S))) sz) := by
  refine Met.ofW (cc := cX0_save) (maxL := 3) (ret := none) (by decide) rfl ?_
  intro p e s m args below meth c s₁ B hml hv
  obtain ⟨rfl, hsz, hP, hK, hD0, hN⟩ := hv
  have hx := B.exec
  have hb := B.bytes
  have hr := B.returns
  have hts := atoms_spec (ws := wsX0_save) B.pre
  have hown : s.vm.findClass RX0 = some m.cls := findClass_of_methodNamed B.named
  have hlocks := B.notSynchronized
  subst hsz
  have hD := hD0.self (sz := s.heap.size)
  generalize hAe : va_A (wHi cS aH ah G ++ (wZs cI ah Z ++ (wSt cI aS S))) s.heap.size = A at hD ⊢
  have hA : ∀ q : Nat, s.heap.size ≤ q → A q := fun q h => by rw [← hAe]; exact Or.inr h
  have hS : va_S A s.heap s.heap [] := va_S.rf
  have hP : va_P (dC, dI) vwCl (wHi cS aH ah G ++ (wZs cI ah Z ++ (wSt cI aS S))) s.heap := hP
  generalize hR : f0_save G Z S = res
  rw [f0_save] at hR
  have hin0 : ∀ w ∈ wsX00, w ∈ wsX0_save := by decide +kernel
  have hl := lv_entry ([.ref (aH 0), .ref (aS 0)]) (n := 3) (Nat.le_of_ble_eq_true rfl)
  rw [lg_entry_eq]
  generalize (lg_sl ([.ref (aH 0), .ref (aS 0)]) ++ List.replicate (3 - (lg_sl ([.ref (aH 0), .ref (aS 0)])).length) Slot.unset).toArray = ls at hl ⊢
  have hl : lv_has ls 3 [(0, .ref (aH 0)), (1, .ref (aS 0))] := hl
  refine lv_aload_n hx hb dX0_save_0 rfl (lv_at hl 0 rfl) ?_
  refine va_get (D := (dC, dI)) (ci := 0) (v := .int ((G 2) 0)) (C := RX0) (T := TX0) (N := 3) hx hb hts hin0 hown hK hP 0 rfl rfl 2 (by decide) (hw_ hts 1 rfl) (fun _ h9 => h9) rfl dX0_save_1 ?_
  refine lv_bipush (v := (6 : Int32)) hx hb dX0_save_4 (by decide) ?_
  obtain ⟨kJ6, hkJ6, hR⟩ := jn_e hR
  have JN6 : ∀ (G_j6 : Pic) (H1 : Heap) (locs : List Loc), kJ6 G_j6 = res → va_P (dC, dI) vwCl (wHi cS aH ah G_j6 ++ (wZs cI ah Z ++ (wSt cI aS S))) H1 → va_D A (wHi cS aH ah G_j6 ++ (wZs cI ah Z ++ (wSt cI aS S))) → va_S A s.heap H1 locs → ∀ (ls : Array Slot), lv_has ls 3 [(0, .ref (aH 0)), (1, .ref (aS 0))] → W p l e (headSpec wsX0_save rm_X0_save).room s m ([.ref (aH 0), .ref (aS 0)] : List Value).toArray below meth c H1 locs 0 0 (MQ below (q_X0_save dC dI cI cZ cS aH ah aS S res A) ([.ref (aH 0), .ref (aS 0)] : List Value).toArray s 0 0 A) (F0 m 32 ls []) := by
    intro G_j6 H1 locs hR hP hD hS ls hl
    rw [hkJ6] at hR
    try dsimp only at hR
    refine lv_aload_n hx hb dX0_save_32 rfl (lv_at hl 0 rfl) ?_
    refine lv_aload_n hx hb dX0_save_33 rfl (lv_at hl 0 rfl) ?_
    refine va_get (D := (dC, dI)) (ci := 0) (v := .int ((G_j6 2) 0)) (C := RX0) (T := TX0) (N := 3) hx hb hts hin0 hown hK hP 0 rfl rfl 2 (by decide) (hw_ hts 1 rfl) (fun _ h9 => h9) rfl dX0_save_34 ?_
    refine va_callq (va_runV (As := [.int ((G_j6 2) 0)]) (rest := []) ⟨hx, hb, hml, hown, hts⟩ (met_X0_placeOf l dC dI cI cZ cS aH ah G_j6 H1.size ((G_j6 2) 0)) (cwV 1 hts gX0_save_X0_placeOf rfl rfl rfl (by decide +kernel) ⟨Nat.le_of_ble_eq_true rfl, Nat.le_of_ble_eq_true rfl⟩) (pV (wc := wHi cS aH ah G_j6) (ci := 0) (q0 := 0) hK hP hD hN [0, 1] rfl (by decide) rfl rfl) rfl rfl hl.1 rfl (lv_room (Nat.le_of_ble_eq_true rfl)) dX0_save_37 ⟨Nat.zero_le _, Nat.zero_le _⟩) hS (fun q _ h => a0_in hS hA q h) (a0_in hS hA) (fun rq u t H2 locs ht hvm hw hB hz1 hk1 hS => ?_)
    subst hw
    have hP := rdk hP hk1
    rcases mtq_e hR with ⟨hq, hR⟩ | ⟨e1, hq, hR⟩
    · rw [hq]
      refine W.eq (g2 := F0 m 40 ls [.null]) rfl ?_
      refine lv_astore_nN (lv' := [(2, .null), (0, .ref (aH 0)), (1, .ref (aS 0))]) hx hb dX0_save_40 rfl hl (by decide) rfl (fun ls hl => ?_)
      refine lv_aload_nN hx hb dX0_save_41 rfl (lv_at hl 0 rfl) ?_
      refine lv_ifnullN (tgt := 60) hx hb dX0_save_42 (by decide) ?_
      exact W.vret hx hb hr (fun t ht hW => ⟨⟨(G_j6, Z), rfl, hR, P_at ht hP⟩, hS.F ht⟩) hS.2.2 dX0_save_60
    · rw [hq]
      have hj : ix e1 < 6 := placeOf_in hq
      refine W.eq (g2 := F0 m 40 ls [.ref (ah (ix e1) 0)]) rfl ?_
      refine lv_astore_n (lv' := [(2, .ref (ah (ix e1) 0)), (0, .ref (aH 0)), (1, .ref (aS 0))]) hx hb dX0_save_40 rfl hl (by decide) rfl (fun ls hl => ?_)
      refine lv_aload_n hx hb dX0_save_41 rfl (lv_at hl 0 rfl) ?_
      refine lv_ifnull hx hb dX0_save_42 ?_
      refine lv_aload_n hx hb dX0_save_45 rfl (lv_at hl 0 rfl) ?_
      refine lv_aload_n hx hb dX0_save_46 rfl (lv_at hl 2 rfl) ?_
      have hF := va_free (wc := wSt cI (ah (ix e1)) (Z (ix e1)) ++ wSt cI aS S) hD hS hA (plZ (ix e1) ++ [68, 69, 70, 71, 72, 73, 74, 75, 76, 77, 78]) (zcut1 hj)
      refine va_callv (va_runV (As := [.ref (aS 0)]) (rest := []) ⟨hx, hb, hml, hown, hts⟩ (met_X5_copyFrom l dC dI cI cZ cS (ah (ix e1)) aS (Z (ix e1)) S H2.size) (cwV 1 hts gX0_save_X5_copyFrom rfl rfl rfl (by decide +kernel) ⟨Nat.le_of_ble_eq_true rfl, Nat.le_of_ble_eq_true rfl⟩) (pV (wc := wSt cI (ah (ix e1)) (Z (ix e1)) ++ wSt cI aS S) (ci := 5) (q0 := 2 + 11 * ix e1) hK hP hD hN (plZ (ix e1) ++ [68, 69, 70, 71, 72, 73, 74, 75, 76, 77, 78]) (zcut1 hj) (znd1 hj) rfl (zrec hj)) rfl rfl hl.1 rfl (lv_room (Nat.le_of_ble_eq_true rfl)) dX0_save_47 ⟨Nat.zero_le _, Nat.zero_le _⟩) hS (fun q _ h => hF q h) hF (fun u5 t H3 locs ht hvm hw hB hz1 hk1 hS => ?_)
      try dsimp only at hw hB
      rw [ht] at hB
      have hR := bd_n hw hR
      have hP := wrk2 (w2 := wHi cS aH ah G_j6 ++ (wZs cI ah (va_up Z (ix e1) u5) ++ (wSt cI aS S))) (wr := wHi cS aH ah G_j6 ++ zRest cI ah Z (ix e1)) hP hD (plZ (ix e1) ++ [68, 69, 70, 71, 72, 73, 74, 75, 76, 77, 78]) (zR (ix e1)) (zcut1 hj) (zrest1 hj) (zdis1 hj) hk1 hB (zPerm1 (ix e1)) (zj1 hj)
      have hD := D_addr (w1 := wHi cS aH ah G_j6 ++ (wZs cI ah (va_up Z (ix e1) u5) ++ (wSt cI aS S))) hD rfl
      refine lv_aload_n hx hb dX0_save_50 rfl (lv_at hl 1 rfl) ?_
      refine lv_dup hx hb dX0_save_51 rfl ?_
      refine va_get (D := (dC, dI)) (ci := 0) (v := .int ((G_j6 2) 0)) (C := RX0) (T := TX0) (N := 3) hx hb hts hin0 hown hK hP 0 rfl rfl 2 (by decide) (hw_ hts 1 rfl) (fun _ h9 => h9) rfl dX0_save_52 ?_
      refine lv_iconst (v := (1 : Int32)) hx hb dX0_save_55 (by decide) ?_
      refine lv_iadd hx hb dX0_save_56 ?_
      refine va_put (D := (dC, dI)) (ci := 0) (v := .int (((G_j6 2) 0) + (1 : Int32))) (ty := .int) (C := RX0) (T := TX0) (N := 3) hx hb hts hin0 tyX0 tyX0_ok nmX0 hown hK hP hD hS 0 rfl rfl 2 (by decide) (hw_ hts 1 rfl) (fun _ h9 => h9) rfl (by decide +kernel) rfl rfl (Nat.le_of_ble_eq_true rfl) dX0_save_57 (fun H4 locs hP hD hS => ?_)
      have hP : va_P (dC, dI) vwCl (wHi cS aH ah (pset G_j6 2 (fun _ => (((G_j6 2) 0) + (1 : Int32)))) ++ (wZs cI ah (va_up Z (ix e1) u5) ++ (wSt cI aS S))) H4 := hP
      have hD : va_D A (wHi cS aH ah (pset G_j6 2 (fun _ => (((G_j6 2) 0) + (1 : Int32)))) ++ (wZs cI ah (va_up Z (ix e1) u5) ++ (wSt cI aS S))) := hD
      obtain ⟨Gb1, hGb1⟩ : ∃ z : Pic, z = (pset G_j6 2 (fun _ => (((G_j6 2) 0) + (1 : Int32)))) := ⟨_, rfl⟩
      rw [← hGb1] at hP hD
      have hR := bd_n hGb1 hR
      exact W.vret hx hb hr (fun t ht hW => ⟨⟨(Gb1, (va_up Z (ix e1) u5)), rfl, hR, P_at ht hP⟩, hS.F ht⟩) hS.2.2 dX0_save_60
  refine lv_icmp_ne (tgt := 32) hx hb dX0_save_6 (by decide) (fun c_2 => ?_) (fun c_2 => ?_)
  · rw [if_neg c_2] at hR
    exact JN6 G _ _ hR hP hD hS ls (lv_sub hl [0, 1] rfl)
  · rw [if_pos c_2] at hR
    refine lv_aload_n hx hb dX0_save_9 rfl (lv_at hl 0 rfl) ?_
    refine lv_aload_n hx hb dX0_save_10 rfl (lv_at hl 0 rfl) ?_
    refine va_get (D := (dC, dI)) (ci := 0) (v := .int ((G 1) 0)) (C := RX0) (T := TX0) (N := 3) hx hb hts hin0 hown hK hP 0 rfl rfl 1 (by decide) (hw_ hts 2 rfl) (fun _ h9 => h9) rfl dX0_save_11 ?_
    refine lv_iconst (v := (1 : Int32)) hx hb dX0_save_14 (by decide) ?_
    refine lv_iadd hx hb dX0_save_15 ?_
    refine lv_bipush (v := (6 : Int32)) hx hb dX0_save_16 (by decide) ?_
    refine lv_irem hx hb dX0_save_18 (by decide) ?_
    refine va_put (D := (dC, dI)) (ci := 0) (v := .int ((((G 1) 0) + (1 : Int32)) - (((G 1) 0) + (1 : Int32)) / (6 : Int32) * (6 : Int32))) (ty := .int) (C := RX0) (T := TX0) (N := 3) hx hb hts hin0 tyX0 tyX0_ok nmX0 hown hK hP hD hS 0 rfl rfl 1 (by decide) (hw_ hts 2 rfl) (fun _ h9 => h9) rfl (by decide +kernel) rfl rfl (Nat.le_of_ble_eq_true rfl) dX0_save_19 (fun H1 locs hP hD hS => ?_)
    have hP : va_P (dC, dI) vwCl (wHi cS aH ah (pset G 1 (fun _ => ((((G 1) 0) + (1 : Int32)) - (((G 1) 0) + (1 : Int32)) / (6 : Int32) * (6 : Int32)))) ++ (wZs cI ah Z ++ (wSt cI aS S))) H1 := hP
    have hD : va_D A (wHi cS aH ah (pset G 1 (fun _ => ((((G 1) 0) + (1 : Int32)) - (((G 1) 0) + (1 : Int32)) / (6 : Int32) * (6 : Int32)))) ++ (wZs cI ah Z ++ (wSt cI aS S))) := hD
    obtain ⟨Gb3, hGb3⟩ : ∃ z : Pic, z = (pset G 1 (fun _ => ((((G 1) 0) + (1 : Int32)) - (((G 1) 0) + (1 : Int32)) / (6 : Int32) * (6 : Int32)))) := ⟨_, rfl⟩
    rw [← hGb3] at hP hD
    have hR := bd_n hGb3 hR
    refine lv_aload_n hx hb dX0_save_22 rfl (lv_at hl 0 rfl) ?_
    refine lv_dup hx hb dX0_save_23 rfl ?_
    refine va_get (D := (dC, dI)) (ci := 0) (v := .int ((Gb3 2) 0)) (C := RX0) (T := TX0) (N := 3) hx hb hts hin0 hown hK hP 0 rfl rfl 2 (by decide) (hw_ hts 1 rfl) (fun _ h9 => h9) rfl dX0_save_24 ?_
    refine lv_iconst (v := (1 : Int32)) hx hb dX0_save_27 (by decide) ?_
    refine lv_isub hx hb dX0_save_28 ?_
    refine va_put (D := (dC, dI)) (ci := 0) (v := .int (((Gb3 2) 0) - (1 : Int32))) (ty := .int) (C := RX0) (T := TX0) (N := 3) hx hb hts hin0 tyX0 tyX0_ok nmX0 hown hK hP hD hS 0 rfl rfl 2 (by decide) (hw_ hts 1 rfl) (fun _ h9 => h9) rfl (by decide +kernel) rfl rfl (Nat.le_of_ble_eq_true rfl) dX0_save_29 (fun H2 locs hP hD hS => ?_)
    have hP : va_P (dC, dI) vwCl (wHi cS aH ah (pset Gb3 2 (fun _ => (((Gb3 2) 0) - (1 : Int32)))) ++ (wZs cI ah Z ++ (wSt cI aS S))) H2 := hP
    have hD : va_D A (wHi cS aH ah (pset Gb3 2 (fun _ => (((Gb3 2) 0) - (1 : Int32)))) ++ (wZs cI ah Z ++ (wSt cI aS S))) := hD
    obtain ⟨Gb4, hGb4⟩ : ∃ z : Pic, z = (pset Gb3 2 (fun _ => (((Gb3 2) 0) - (1 : Int32)))) := ⟨_, rfl⟩
    rw [← hGb4] at hP hD
    have hR := bd_n hGb4 hR
    exact JN6 Gb4 _ _ hR hP hD hS ls (lv_sub hl [0, 1] rfl)
abbrev rm_X0_bringBack : Room := { frames := 3, cells := 0, slots := 0, locals := 68 }
abbrev q_X0_bringBack (dC : Nat → ClassId) (dI : Nat → Nat → Nat) (cI cZ cS : ClassId) (aH : Nat → Nat) (ah : Nat → Nat → Nat) (aS : Nat → Nat) (Z : (Nat → Pic)) (res : Pic × Pic) (A : Nat → Prop) : Array Value → State → Outcome → State → Prop := va_Qv (fun (u : Pic × Pic) => u = res) (fun u t => va_P (dC, dI) vwCl (wHi cS aH ah u.1 ++ (wZs cI ah Z ++ (wSt cI aS u.2))) t.heap) A
set_option maxHeartbeats 4000000 in
set_option maxRecDepth 100000 in
theorem met_X0_bringBack (l : Launch) (dC : Nat → ClassId) (dI : Nat → Nat → Nat) (cI cZ cS : ClassId) (aH : Nat → Nat) (ah : Nat → Nat → Nat) (aS : Nat → Nat) (G : Pic) (Z : (Nat → Pic)) (S : Pic) (sz : Nat)  : Met l yX0_bringBack wsX0_bringBack rm_X0_bringBack (va_Pc [.ref (aH 0), .ref (aS 0)] (pW (dC, dI) (tyS cI cZ cS) (wHi cS aH ah G ++ (wZs cI ah Z ++ (wSt cI aS S))) sz)) (q_X0_bringBack dC dI cI cZ cS aH ah aS Z (f0_bringBack G Z S) (va_A (wHi cS aH ah G ++ (wZs cI ah Z ++ (wSt cI aS S))) sz)) 0 0 (va_A (wHi cS aH ah G ++ (wZs cI ah Z ++ (wSt cI aS S))) sz) := by
  refine Met.ofW (cc := cX0_bringBack) (maxL := 3) (ret := none) (by decide) rfl ?_
  intro p e s m args below meth c s₁ B hml hv
  obtain ⟨rfl, hsz, hP, hK, hD0, hN⟩ := hv
  have hx := B.exec
  have hb := B.bytes
  have hr := B.returns
  have hts := atoms_spec (ws := wsX0_bringBack) B.pre
  have hown : s.vm.findClass RX0 = some m.cls := findClass_of_methodNamed B.named
  have hlocks := B.notSynchronized
  subst hsz
  have hD := hD0.self (sz := s.heap.size)
  generalize hAe : va_A (wHi cS aH ah G ++ (wZs cI ah Z ++ (wSt cI aS S))) s.heap.size = A at hD ⊢
  have hA : ∀ q : Nat, s.heap.size ≤ q → A q := fun q h => by rw [← hAe]; exact Or.inr h
  have hS : va_S A s.heap s.heap [] := va_S.rf
  have hP : va_P (dC, dI) vwCl (wHi cS aH ah G ++ (wZs cI ah Z ++ (wSt cI aS S))) s.heap := hP
  generalize hR : f0_bringBack G Z S = res
  rw [f0_bringBack] at hR
  have hin0 : ∀ w ∈ wsX00, w ∈ wsX0_bringBack := by decide +kernel
  have hl := lv_entry ([.ref (aH 0), .ref (aS 0)]) (n := 3) (Nat.le_of_ble_eq_true rfl)
  rw [lg_entry_eq]
  generalize (lg_sl ([.ref (aH 0), .ref (aS 0)]) ++ List.replicate (3 - (lg_sl ([.ref (aH 0), .ref (aS 0)])).length) Slot.unset).toArray = ls at hl ⊢
  have hl : lv_has ls 3 [(0, .ref (aH 0)), (1, .ref (aS 0))] := hl
  refine lv_aload_n hx hb dX0_bringBack_0 rfl (lv_at hl 0 rfl) ?_
  refine lv_aload_n hx hb dX0_bringBack_1 rfl (lv_at hl 0 rfl) ?_
  refine va_get (D := (dC, dI)) (ci := 0) (v := .int ((G 2) 0)) (C := RX0) (T := TX0) (N := 3) hx hb hts hin0 hown hK hP 0 rfl rfl 2 (by decide) (hw_ hts 1 rfl) (fun _ h9 => h9) rfl dX0_bringBack_2 ?_
  refine lv_iconst (v := (1 : Int32)) hx hb dX0_bringBack_5 (by decide) ?_
  refine lv_isub hx hb dX0_bringBack_6 ?_
  refine va_callq (va_runV (As := [.int (((G 2) 0) - (1 : Int32))]) (rest := []) ⟨hx, hb, hml, hown, hts⟩ (met_X0_placeOf l dC dI cI cZ cS aH ah G s.heap.size (((G 2) 0) - (1 : Int32))) (cwV 1 hts gX0_bringBack_X0_placeOf rfl rfl rfl (by decide +kernel) ⟨Nat.le_of_ble_eq_true rfl, Nat.le_of_ble_eq_true rfl⟩) (pV (wc := wHi cS aH ah G) (ci := 0) (q0 := 0) hK hP hD hN [0, 1] rfl (by decide) rfl rfl) rfl rfl hl.1 rfl (lv_room (Nat.le_of_ble_eq_true rfl)) dX0_bringBack_7 ⟨Nat.zero_le _, Nat.zero_le _⟩) hS (fun q _ h => a0_in hS hA q h) (a0_in hS hA) (fun rq u t H1 locs ht hvm hw hB hz1 hk1 hS => ?_)
  subst hw
  have hP := rdk hP hk1
  rcases mtq_e hR with ⟨hq, hR⟩ | ⟨e1, hq, hR⟩
  · rw [hq]
    refine W.eq (g2 := F0 m 10 ls [.null]) rfl ?_
    refine lv_astore_nN (lv' := [(2, .null), (0, .ref (aH 0)), (1, .ref (aS 0))]) hx hb dX0_bringBack_10 rfl hl (by decide) rfl (fun ls hl => ?_)
    refine lv_aload_nN hx hb dX0_bringBack_11 rfl (lv_at hl 0 rfl) ?_
    refine lv_ifnullN (tgt := 30) hx hb dX0_bringBack_12 (by decide) ?_
    exact W.vret hx hb hr (fun t ht hW => ⟨⟨(G, S), rfl, hR, P_at ht hP⟩, hS.F ht⟩) hS.2.2 dX0_bringBack_30
  · rw [hq]
    have hj : ix e1 < 6 := placeOf_in hq
    refine W.eq (g2 := F0 m 10 ls [.ref (ah (ix e1) 0)]) rfl ?_
    refine lv_astore_n (lv' := [(2, .ref (ah (ix e1) 0)), (0, .ref (aH 0)), (1, .ref (aS 0))]) hx hb dX0_bringBack_10 rfl hl (by decide) rfl (fun ls hl => ?_)
    refine lv_aload_n hx hb dX0_bringBack_11 rfl (lv_at hl 0 rfl) ?_
    refine lv_ifnull hx hb dX0_bringBack_12 ?_
    refine lv_aload_n hx hb dX0_bringBack_15 rfl (lv_at hl 2 rfl) ?_
    refine lv_aload_n hx hb dX0_bringBack_16 rfl (lv_at hl 0 rfl) ?_
    have hF := va_free (wc := wSt cI aS S ++ wSt cI (ah (ix e1)) (Z (ix e1))) hD hS hA ([68, 69, 70, 71, 72, 73, 74, 75, 76, 77, 78] ++ plZ (ix e1)) (zcut2 hj)
    refine va_callv (va_runV (As := [.ref (ah (ix e1) 0)]) (rest := []) ⟨hx, hb, hml, hown, hts⟩ (met_X5_copyFrom l dC dI cI cZ cS aS (ah (ix e1)) S (Z (ix e1)) H1.size) (cwV 1 hts gX0_bringBack_X5_copyFrom rfl rfl rfl (by decide +kernel) ⟨Nat.le_of_ble_eq_true rfl, Nat.le_of_ble_eq_true rfl⟩) (pV (wc := wSt cI aS S ++ wSt cI (ah (ix e1)) (Z (ix e1))) (ci := 5) (q0 := 68) hK hP hD hN ([68, 69, 70, 71, 72, 73, 74, 75, 76, 77, 78] ++ plZ (ix e1)) (zcut2 hj) (znd2 hj) rfl rfl) rfl rfl hl.1 rfl (lv_room (Nat.le_of_ble_eq_true rfl)) dX0_bringBack_17 ⟨Nat.zero_le _, Nat.zero_le _⟩) hS (fun q _ h => hF q h) hF (fun u5 t H2 locs ht hvm hw hB hz1 hk1 hS => ?_)
    try dsimp only at hw hB
    rw [ht] at hB
    have hR := bd_n hw hR
    have hP := wrk2 (w2 := wHi cS aH ah G ++ (wZs cI ah Z ++ (wSt cI aS u5))) (wr := wHi cS aH ah G ++ zRest cI ah Z (ix e1)) hP hD ([68, 69, 70, 71, 72, 73, 74, 75, 76, 77, 78] ++ plZ (ix e1)) (zR (ix e1)) (zcut2 hj) (zrest2 hj) (zdis2 hj) hk1 hB (zPerm2 (ix e1)) (zj2 hj)
    have hD := D_addr (w1 := wHi cS aH ah G ++ (wZs cI ah Z ++ (wSt cI aS u5))) hD rfl
    refine lv_aload_n hx hb dX0_bringBack_20 rfl (lv_at hl 1 rfl) ?_
    refine lv_dup hx hb dX0_bringBack_21 rfl ?_
    refine va_get (D := (dC, dI)) (ci := 0) (v := .int ((G 2) 0)) (C := RX0) (T := TX0) (N := 3) hx hb hts hin0 hown hK hP 0 rfl rfl 2 (by decide) (hw_ hts 1 rfl) (fun _ h9 => h9) rfl dX0_bringBack_22 ?_
    refine lv_iconst (v := (1 : Int32)) hx hb dX0_bringBack_25 (by decide) ?_
    refine lv_isub hx hb dX0_bringBack_26 ?_
    refine va_put (D := (dC, dI)) (ci := 0) (v := .int (((G 2) 0) - (1 : Int32))) (ty := .int) (C := RX0) (T := TX0) (N := 3) hx hb hts hin0 tyX0 tyX0_ok nmX0 hown hK hP hD hS 0 rfl rfl 2 (by decide) (hw_ hts 1 rfl) (fun _ h9 => h9) rfl (by decide +kernel) rfl rfl (Nat.le_of_ble_eq_true rfl) dX0_bringBack_27 (fun H3 locs hP hD hS => ?_)
    have hP : va_P (dC, dI) vwCl (wHi cS aH ah (pset G 2 (fun _ => (((G 2) 0) - (1 : Int32)))) ++ (wZs cI ah Z ++ (wSt cI aS u5))) H3 := hP
    have hD : va_D A (wHi cS aH ah (pset G 2 (fun _ => (((G 2) 0) - (1 : Int32)))) ++ (wZs cI ah Z ++ (wSt cI aS u5))) := hD
    obtain ⟨Gb1, hGb1⟩ : ∃ z : Pic, z = (pset G 2 (fun _ => (((G 2) 0) - (1 : Int32)))) := ⟨_, rfl⟩
    rw [← hGb1] at hP hD
    have hR := bd_n hGb1 hR
    exact W.vret hx hb hr (fun t ht hW => ⟨⟨(Gb1, u5), rfl, hR, P_at ht hP⟩, hS.F ht⟩) hS.2.2 dX0_bringBack_30
