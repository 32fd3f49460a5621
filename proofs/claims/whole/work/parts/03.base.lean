abbrev vwCl : List vw_C := [(RX0, TX0, 3), (RX1, TX1, 2), (RX2, TX2, 2), (RX3, TX3, 2), (RX4, TX4, 2), (RX5, TX5, 12), (RX6, TX6, 7), (RX7, TX7, 15)]
/-! words, worlds and calls, in one form for all methods -/
def nestL : List (String × Nat × MethodName × String) := [(RX5, 55, yX6_put, RX6), (RX5, 63, yX6_at, RX6), (RX5, 59, yX6_copyRow, RX6), (RX3, 23, yX6_at, RX6), (RX3, 39, yX6_isWithin, RX6), (RX1, 42, yX6_at, RX6), (RX1, 66, yX6_cellOf, RX6), (RX1, 34, yX6_put, RX6), (RX2, 19, yX6_cellOf, RX6), (RX2, 29, yX6_at, RX6), (RX5, 77, yX6_cellOf, RX6), (RX3, 19, yX6_put, RX6), (RX4, 19, yX6_at, RX6), (RX4, 23, yX6_put, RX6)]
def NW (U : State) : Prop := ∀ q ∈ nestL, va_Nw (.methodLinkNest q.1 q.2.1 q.2.2.1 q.2.2.2) U
theorem NW.moved {s U : State} (hW : s.WarmedH U.vm) (h : NW s) : NW U := fun q hq => va_Nw.warmM hW (h q hq)
theorem NW.blind {U : State} {g : JFrame} {mk : MethodId} {a : Array Value} (h : NW U) : NW (U.calling g mk a) := fun q hq => va_Nw.same rfl (u := U) rfl (h q hq)
theorem hN_0 {s : State} (h : NW s) : va_Nw (.methodLinkNest RX5 55 yX6_put RX6) s := h (RX5, 55, yX6_put, RX6) (List.mem_of_getElem? (i := 0) rfl)
theorem hN_1 {s : State} (h : NW s) : va_Nw (.methodLinkNest RX5 63 yX6_at RX6) s := h (RX5, 63, yX6_at, RX6) (List.mem_of_getElem? (i := 1) rfl)
theorem hN_2 {s : State} (h : NW s) : va_Nw (.methodLinkNest RX5 59 yX6_copyRow RX6) s := h (RX5, 59, yX6_copyRow, RX6) (List.mem_of_getElem? (i := 2) rfl)
theorem hN_3 {s : State} (h : NW s) : va_Nw (.methodLinkNest RX3 23 yX6_at RX6) s := h (RX3, 23, yX6_at, RX6) (List.mem_of_getElem? (i := 3) rfl)
theorem hN_4 {s : State} (h : NW s) : va_Nw (.methodLinkNest RX3 39 yX6_isWithin RX6) s := h (RX3, 39, yX6_isWithin, RX6) (List.mem_of_getElem? (i := 4) rfl)
theorem hN_5 {s : State} (h : NW s) : va_Nw (.methodLinkNest RX1 42 yX6_at RX6) s := h (RX1, 42, yX6_at, RX6) (List.mem_of_getElem? (i := 5) rfl)
theorem hN_6 {s : State} (h : NW s) : va_Nw (.methodLinkNest RX1 66 yX6_cellOf RX6) s := h (RX1, 66, yX6_cellOf, RX6) (List.mem_of_getElem? (i := 6) rfl)
theorem hN_7 {s : State} (h : NW s) : va_Nw (.methodLinkNest RX1 34 yX6_put RX6) s := h (RX1, 34, yX6_put, RX6) (List.mem_of_getElem? (i := 7) rfl)
theorem hN_8 {s : State} (h : NW s) : va_Nw (.methodLinkNest RX2 19 yX6_cellOf RX6) s := h (RX2, 19, yX6_cellOf, RX6) (List.mem_of_getElem? (i := 8) rfl)
theorem hN_9 {s : State} (h : NW s) : va_Nw (.methodLinkNest RX2 29 yX6_at RX6) s := h (RX2, 29, yX6_at, RX6) (List.mem_of_getElem? (i := 9) rfl)
theorem hN_10 {s : State} (h : NW s) : va_Nw (.methodLinkNest RX5 77 yX6_cellOf RX6) s := h (RX5, 77, yX6_cellOf, RX6) (List.mem_of_getElem? (i := 10) rfl)
theorem hN_11 {s : State} (h : NW s) : va_Nw (.methodLinkNest RX3 19 yX6_put RX6) s := h (RX3, 19, yX6_put, RX6) (List.mem_of_getElem? (i := 11) rfl)
theorem hN_12 {s : State} (h : NW s) : va_Nw (.methodLinkNest RX4 19 yX6_at RX6) s := h (RX4, 19, yX6_at, RX6) (List.mem_of_getElem? (i := 12) rfl)
theorem hN_13 {s : State} (h : NW s) : va_Nw (.methodLinkNest RX4 23 yX6_put RX6) s := h (RX4, 23, yX6_put, RX6) (List.mem_of_getElem? (i := 13) rfl)
theorem hw_ {ws : List Cond} {a : Array Value} {s : State} (h : ∀ w ∈ ws, w.before a s = true) (i : Nat) {w : Cond} (e : ws[i]? = some w) : w.before a s = true := h w (List.mem_of_getElem? e)
/-- what holds ahead of a method: the heap's size, its world, the tables, the links of nest mates -/
def pW (D : va_G) (tys : List (ClassId × FieldType)) (ws : va_W) (sz : Nat) : State → Prop := fun U => U.heap.size = sz ∧ va_P D vwCl ws U.heap ∧ va_K D vwCl tys U ∧ va_D (fun _ => True) ws ∧ NW U
theorem pW_blind {D : va_G} {tys : List (ClassId × FieldType)} {ws : va_W} {sz : Nat} {av : List Value} : FrameBlind (va_Pc av (pW D tys ws sz)) := fun a U g mk q => ⟨q.1, q.2.1, q.2.2.1, va_K.moved (u := U) (U := U.calling g mk a) (Vm.Alike.refl U.vm) q.2.2.2.1, q.2.2.2.2.1, NW.blind q.2.2.2.2.2⟩
theorem P_map {D : va_G} {cl : List vw_C} {ws wc : va_W} {H : Heap} (h : va_P D cl ws H) (is : List Nat) (hs : is.map (fun i => ws[i]?) = wc.map some) : va_P D cl wc H := by
  intro k q hk
  have h1 : (is.map (fun i => ws[i]?))[k]? = some (some q) := by rw [hs, List.getElem?_map, hk]; rfl
  rw [List.getElem?_map] at h1
  cases hi : is[k]? with
  | none => rw [hi] at h1; cases h1
  | some i => rw [hi] at h1; exact h i q (Option.some.inj h1)
theorem pW_call {D : va_G} {tys : List (ClassId × FieldType)} {ws wc : va_W} {s : State} {H : Heap} {A : Nat → Prop} (hK : va_K D vwCl tys s) (hP : va_P D vwCl ws H) (hD : va_D A ws) (hN : NW s) (is : List Nat) (hs : is.map (fun i => ws[i]?) = wc.map some) (nd : va_nd is = true) (U : State) (hU : U.heap = H) (hW : s.WarmedH U.vm) : pW D tys wc H.size U :=
  ⟨by rw [hU], by rw [hU]; exact P_map hP is hs, va_K.moved hW.alike hK, (hD.sub is nd hs).weaken (fun _ _ _ _ => trivial), NW.moved hW hN⟩
theorem pS {D : va_G} {tys : List (ClassId × FieldType)} {ws wc : va_W} {s : State} {H : Heap} {A : Nat → Prop} {As : List Value} (hK : va_K D vwCl tys s) (hP : va_P D vwCl ws H) (hD : va_D A ws) (hN : NW s) (is : List Nat) (hs : is.map (fun i => ws[i]?) = wc.map some) (nd : va_nd is = true) : PreS s H (va_Pc As (pW D tys wc H.size)) As := ⟨pW_blind, fun U hU hW => ⟨rfl, pW_call hK hP hD hN is hs nd U hU hW⟩⟩
theorem pV {D : va_G} {tys : List (ClassId × FieldType)} {ws wc : va_W} {s : State} {H : Heap} {A : Nat → Prop} {As : List Value} {b q0 ci : Nat} {q : vw_C} {fs : List Value} (hK : va_K D vwCl tys s) (hP : va_P D vwCl ws H) (hD : va_D A ws) (hN : NW s) (is : List Nat) (hs : is.map (fun i => ws[i]?) = wc.map some) (nd : va_nd is = true) (hc : vwCl[ci]? = some q) (he : ws[q0]? = some (b, .inr (ci, fs))) : PreV s H q.1 b (va_Pc (.ref b :: As) (pW D tys wc H.size)) As := ⟨pW_blind, va_recv hK hP hc he, fun U hU hW => ⟨rfl, pW_call hK hP hD hN is hs nd U hU hW⟩⟩
/-- nothing old changes -/
abbrev a0 (sz : Nat) : Nat → Prop := va_A [] sz
theorem a0_old {sz q : Nat} (h : q < sz) : ¬ a0 sz q := by
  rintro (⟨k, e, h1⟩ | h1)
  · simp at h1
  · exact Nat.not_le.mpr h h1
theorem a0_in {A0 : Nat → Prop} {H0 H : Heap} {locs : List Loc} (hS : va_S A0 H0 H locs) (hA : ∀ q, H0.size ≤ q → A0 q) : ∀ q, a0 H.size q → A0 q := by
  rintro q (⟨k, e, h1⟩ | h1)
  · simp at h1
  · exact hA q (Nat.le_trans hS.1 h1)
theorem rdk {D : va_G} {cl : List vw_C} {ws : va_W} {H H1 : Heap} (hP : va_P D cl ws H) (hk : ∀ q : Nat, q < H.size → ¬ a0 H.size q → H1[q]? = H[q]?) : va_P D cl ws H1 := hP.kept (fun k q hq => hk q.1 (vx_lt hP hq) (a0_old (vx_lt hP hq)))
/-- the cells wc, at the places is of ws, become w1 -/
def wjr : List Nat → va_W → va_W → va_W
  | [], _, ws => ws
  | _ :: _, [], ws => ws
  | i :: is, x :: w1, ws => wjr is w1 (ws.set i x)
abbrev wj (ws : va_W) (is : List Nat) (w1 : va_W) : va_W := wjr is w1 ws
theorem wj_len : ∀ (is : List Nat) (w1 ws : va_W), (wjr is w1 ws).length = ws.length
  | [], _, ws => rfl
  | _ :: _, [], ws => rfl
  | i :: is, x :: w1, ws => by rw [wjr, wj_len is w1, List.length_set]
theorem wj_out : ∀ (is : List Nat) (w1 ws : va_W) (k : Nat), k ∉ is → (wjr is w1 ws)[k]? = ws[k]?
  | [], _, ws, _, _ => rfl
  | _ :: _, [], ws, _, _ => rfl
  | i :: is, x :: w1, ws, k, h => by
    rw [wjr, wj_out is w1 _ k (fun q => h (List.mem_cons_of_mem _ q)), List.getElem?_set_ne (fun q => h (by rw [q]; exact List.mem_cons_self))]
theorem nd_cons {i : Nat} {is : List Nat} (h : va_nd (i :: is) = true) : i ∉ is ∧ va_nd is = true := by
  simp only [va_nd, Bool.and_eq_true, Bool.not_eq_true', List.contains_eq_mem, decide_eq_false_iff_not, decide_eq_true_eq] at h
  exact h
theorem wj_in : ∀ (is : List Nat) (w1 ws : va_W), va_nd is = true → is.length = w1.length → (∀ i ∈ is, i < ws.length) → ∀ (j i : Nat), is[j]? = some i → (wjr is w1 ws)[i]? = w1[j]?
  | [], _, _, _, _, _, j, i, h => by simp at h
  | _ :: _, [], _, _, h, _, _, _, _ => by simp at h
  | i0 :: is, x :: w1, ws, nd, hl, hb, j, i, h => by
    rw [wjr]
    obtain ⟨n1, n2⟩ := nd_cons nd
    cases j with
    | zero =>
      have e : i0 = i := by simpa using h
      subst e
      rw [wj_out is w1 _ i0 n1, List.getElem?_set_self (hb i0 List.mem_cons_self)]
      rfl
    | succ j =>
      have h' : is[j]? = some i := by simpa using h
      rw [wj_in is w1 (ws.set i0 x) n2 (by simpa using hl) (fun i hi => by rw [List.length_set]; exact hb i (List.mem_cons_of_mem _ hi)) j i h']
      rfl
theorem D_addr {A : Nat → Prop} {ws w1 : va_W} (hD : va_D A ws) (h : w1.map (·.1) = ws.map (·.1)) : va_D A w1 := by
  have key : ∀ (k : Nat) (q : Nat × va_E), w1[k]? = some q → ∃ p : Nat × va_E, ws[k]? = some p ∧ p.1 = q.1 := by
    intro k q hq
    have h1 : (w1.map (·.1))[k]? = some q.1 := by rw [List.getElem?_map, hq]; rfl
    rw [h, List.getElem?_map] at h1
    cases hp : ws[k]? with
    | none => rw [hp] at h1; cases h1
    | some p => rw [hp] at h1; exact ⟨p, rfl, Option.some.inj h1⟩
  refine ⟨fun i j p q hi hj e => ?_, fun k q hq => ?_⟩
  · obtain ⟨p', hi', e1⟩ := key i p hi
    obtain ⟨q', hj', e2⟩ := key j q hj
    exact hD.1 i j p' q' hi' hj' (by rw [e1, e2, e])
  · obtain ⟨p, hp, e⟩ := key k q hq
    rw [← e]
    exact hD.2 k p hp
theorem wrk {A0 : Nat → Prop} {D : va_G} {cl : List vw_C} {ws wc w1 w2 : va_W} {H H1 : Heap} (hP : va_P D cl ws H) (hD : va_D A0 ws) (is : List Nat) (hs : is.map (fun i => ws[i]?) = wc.map some) (nd : va_nd is = true) (hk : ∀ q : Nat, q < H.size → ¬ va_A wc H.size q → H1[q]? = H[q]?) (hP1 : va_P D cl w1 H1) (hl : w1.length = wc.length) (he : wj ws is w1 = w2) : va_P D cl w2 H1 := by
  subst he
  have hlen : is.length = wc.length := by simpa using congrArg List.length hs
  have hb : ∀ i ∈ is, i < ws.length := by
    intro i hi
    obtain ⟨j, hj, hj2⟩ := List.getElem_of_mem hi
    have h1 : (is.map (fun i => ws[i]?))[j]? = some (ws[i]?) := by rw [List.getElem?_map, List.getElem?_eq_getElem hj, hj2]; rfl
    rw [hs, List.getElem?_map] at h1
    cases hq : wc[j]? with
    | none => rw [hq] at h1; cases h1
    | some q => rw [hq] at h1; exact (List.getElem?_eq_some_iff.mp (Option.some.inj h1).symm).1
  have at' : ∀ (j i : Nat), is[j]? = some i → ∃ q, wc[j]? = some q ∧ ws[i]? = some q := by
    intro j i hj
    have h1 : (is.map (fun i => ws[i]?))[j]? = some (ws[i]?) := by rw [List.getElem?_map, hj]; rfl
    rw [hs, List.getElem?_map] at h1
    cases hq : wc[j]? with
    | none => rw [hq] at h1; cases h1
    | some q => rw [hq] at h1; exact ⟨q, rfl, (Option.some.inj h1).symm⟩
  intro k q hq
  by_cases hm : k ∈ is
  · obtain ⟨j, hj⟩ := List.getElem?_of_mem hm
    rw [wj_in is w1 ws nd (by rw [hlen, hl]) hb j k hj] at hq
    exact hP1 j q hq
  · rw [wj_out is w1 ws k hm] at hq
    refine (hP k q hq).kept (hk q.1 (vx_lt hP hq) ?_)
    rintro (⟨j, e, hj⟩ | h)
    · have hjl : j < is.length := by rw [hlen]; exact (List.getElem?_eq_some_iff.mp hj).1
      obtain ⟨q', h1, h2⟩ := at' j is[j] (List.getElem?_eq_getElem hjl)
      have e1 : q' = (q.1, e) := Option.some.inj (h1.symm.trans hj)
      have e2 := hD.1 k is[j] q q' hq h2 (by rw [e1])
      exact hm (by rw [e2]; exact List.getElem_mem hjl)
    · exact Nat.not_le.mpr (vx_lt hP hq) h
/-! pure words -/
abbrev Pic : Type := Nat → Nat → Int32
def pset (S : Pic) (k : Nat) (f : Nat → Int32) : Pic := fun i => if i = k then f else S i
def bd {α β : Type} (x : α) (f : α → β) : β := f x
def ck {α : Type} (i : Int32) (n : Nat) (t : Option α) : Option α := if i < 0 ∨ n ≤ i.toNatClampNeg then none else t
theorem ck_some {α : Type} {i : Int32} {n : Nat} {t : Option α} {r : α} (h : ck i n t = some r) : vp_in i n ∧ t = some r := by
  unfold ck at h
  by_cases c : i < 0 ∨ n ≤ i.toNatClampNeg
  · rw [if_pos c] at h; cases h
  · rw [if_neg c] at h; exact ⟨c, h⟩
theorem vpin_g {i : Int32} {n : Nat} (h0 : ¬ i < 0) (h1 : ¬ nI n ≤ i) (hn : n < 2 ^ 31) : vp_in i n := by
  obtain ⟨j, hj, rfl⟩ := nI_of h0
  exact vp_in_nI (by rcases Nat.lt_or_ge j n with q | q; exact q; exact absurd (nI_le q (by omega)) h1) (by omega)
theorem fuel0 {i b : Int32} (h : b.toInt - i.toInt ≤ ((0 : Nat) : Int)) (c : ¬ b ≤ i) : False := c (Int32.le_iff_toInt_le.mpr (by omega))
theorem fuelS {i b : Int32} {n : Nat} (h : b.toInt - i.toInt ≤ ((n + 1 : Nat) : Int)) (c : ¬ b ≤ i) : b.toInt - (i + 1).toInt ≤ (n : Int) := by
  have c1 : i.toInt < b.toInt := by
    rcases Int.lt_or_le i.toInt b.toInt with q | q
    · exact q
    · exact absurd (Int32.le_iff_toInt_le.mpr q) c
  have h1 := Int32.toInt_lt b
  have h2 := Int32.le_toInt i
  have e : (i + 1).toInt = i.toInt + 1 := by
    rw [Int32.toInt_add]
    have : (1 : Int32).toInt = 1 := rfl
    rw [this]
    exact Int.bmod_eq_of_le (by omega) (by omega)
  omega
def fuelN (i b : Int32) : Nat := (b.toInt - i.toInt).toNat
theorem fuelE (i b : Int32) : b.toInt - i.toInt ≤ ((fuelN i b : Nat) : Int) := Int.self_le_toNat _
def tyS (cI cZ cS : ClassId) : List (ClassId × FieldType) := [(cI, .int), (cZ, .boolean), (cS, .object RX5)]
def wSt (cI : ClassId) (a : Nat → Nat) (S : Pic) : va_W := [(a 0, .inr (5, [.int (S 0 0), .ref (a 1), .ref (a 2), .ref (a 3), .ref (a 4), .ref (a 5), .ref (a 6), .int (S 7 0), .ref (a 8), .ref (a 9), .ref (a 10), .ref (a 11)])), (a 1, .inl (cI, 12, .inl (S 1))), (a 2, .inl (cI, 12, .inl (S 2))), (a 3, .inl (cI, 12, .inl (S 3))), (a 4, .inl (cI, 12, .inl (S 4))), (a 5, .inl (cI, 12, .inl (S 5))), (a 6, .inl (cI, 12, .inl (S 6))), (a 8, .inl (cI, 6, .inl (S 8))), (a 9, .inl (cI, 6, .inl (S 9))), (a 10, .inl (cI, 3, .inl (S 10))), (a 11, .inl (cI, 84, .inl (S 11)))]
def wLo (cI : ClassId) (a : Nat → Nat) (Y : Pic) : va_W := [(a 0, .inr (1, [.ref (a 1), .ref (a 2)])), (a 1, .inl (cI, 84, .inl (Y 0))), (a 2, .inl (cI, 84, .inl (Y 1)))]
def wOu (a aS aL : Nat → Nat) : va_W := [(a 0, .inr (2, [.ref (aS 0), .ref (aL 0)]))]
def wTx (cI : ClassId) (a : Nat → Nat) (T : Pic) : va_W := [(a 0, .inr (3, [.ref (a 1), .int (T 1 0)])), (a 1, .inl (cI, 60, .inl (T 0)))]
def wSn (cI cZ : ClassId) (a : Nat → Nat) (N : Pic) : va_W := [(a 0, .inr (4, [.ref (a 1), .ref (a 2)])), (a 1, .inl (cI, 168, .inl (N 0))), (a 2, .inl (cZ, 2, .inl (N 1)))]
def wHi (cS : ClassId) (a : Nat → Nat) (ah : Nat → Nat → Nat) (G : Pic) : va_W := [(a 0, .inr (0, [.ref (a 1), .int (G 1 0), .int (G 2 0)])), (a 1, .inl (cS, 6, .inr (.inr (.inr (.inr (fun i => some (ah i 0)))))))]
def wFm (a aN aT aL aO aH aP aX : Nat → Nat) : va_W := [(a 0, .inr (6, [.ref (aN 0), .ref (aT 0), .ref (aL 0), .ref (aO 0), .ref (aH 0), .ref (aP 0), .ref (aX 0)]))]
def wMo (cI : ClassId) (a : Nat → Nat) (M : Pic) (hs : Int64) : va_W := [(a 0, .inr (7, [.ref (a 1), .int (M 1 0), .ref (a 2), .ref (a 3), .ref (a 4), .int (M 5 0), .ref (a 5), .int (M 7 0), .ref (a 6), .ref (a 7), .ref (a 8), .int (M 11 0), .int (M 12 0), .int (M 13 0), .long hs])), (a 1, .inl (cI, 173, .inl (M 0))), (a 2, .inl (cI, 1038, .inl (M 2))), (a 3, .inl (cI, 168, .inl (M 3))), (a 4, .inl (cI, 2, .inl (M 4))), (a 5, .inl (cI, 60, .inl (M 6))), (a 6, .inl (cI, 84, .inl (M 8))), (a 7, .inl (cI, 84, .inl (M 9))), (a 8, .inl (cI, 28, .inl (M 10)))]
abbrev ix (i : Int32) : Nat := i.toNatClampNeg
theorem bd_e {α β : Type} {x : α} {f : α → β} {r : β} (h : bd x f = r) : f x = r := h
def bd2 {α β γ : Type} (x : α × β) (f : α → β → γ) : γ := f x.1 x.2
theorem bd2_e {α β γ : Type} {a : α} {b : β} {f : α → β → γ} {r : γ} (h : bd2 (a, b) f = r) : f a b = r := h
def bd3 {α β γ δ : Type} (x : α × β × γ) (f : α → β → γ → δ) : δ := f x.1 x.2.1 x.2.2
theorem bd3_e {α β γ δ : Type} {a : α} {b : β} {c : γ} {f : α → β → γ → δ} {r : δ} (h : bd3 (a, b, c) f = r) : f a b c = r := h
def ob1 {α β : Type} (x : Option α) (f : α → Option β) : Option β := x.bind f
theorem ob1_e {α β : Type} {x : Option α} {f : α → Option β} {r : β} (h : ob1 x f = some r) : ∃ a, x = some a ∧ f a = some r := Option.bind_eq_some_iff.mp h
def ob2 {α β γ : Type} (x : Option (α × β)) (f : α → β → Option γ) : Option γ := x.bind (fun q => f q.1 q.2)
theorem ob2_e {α β γ : Type} {x : Option (α × β)} {f : α → β → Option γ} {r : γ} (h : ob2 x f = some r) : ∃ a b, x = some (a, b) ∧ f a b = some r := by
  obtain ⟨⟨a, b⟩, h1, h2⟩ := Option.bind_eq_some_iff.mp h
  exact ⟨a, b, h1, h2⟩
def ob3 {α β γ δ : Type} (x : Option (α × β × γ)) (f : α → β → γ → Option δ) : Option δ := x.bind (fun q => f q.1 q.2.1 q.2.2)
theorem ob3_e {α β γ δ : Type} {x : Option (α × β × γ)} {f : α → β → γ → Option δ} {r : δ} (h : ob3 x f = some r) : ∃ a b c, x = some (a, b, c) ∧ f a b c = some r := by
  obtain ⟨⟨a, b, c⟩, h1, h2⟩ := Option.bind_eq_some_iff.mp h
  exact ⟨a, b, c, h1, h2⟩
theorem sw_out {x : Int32} {lo hi : Int} (ks : List Int) (hk : ∀ z : Int, lo ≤ z → z ≤ hi → z ∈ ks) (h : ∀ k ∈ ks, ¬ x.toInt = k) : x.toInt < lo ∨ hi < x.toInt := by
  rcases Int.lt_or_le x.toInt lo with q | q
  · exact Or.inl q
  · rcases Int.lt_or_le hi x.toInt with q2 | q2
    · exact Or.inr q2
    · exact absurd rfl (h _ (hk _ q q2))
theorem mn_ok {n0 n1 : Nat} (h0 : n0 < 2 ^ 31) (h1 : n1 < 2 ^ 31) : ¬ (if nI n1 < nI n0 then nI n1 else nI n0) < 0 ∧ (0 : Int32).toNatClampNeg + (if nI n1 < nI n0 then nI n1 else nI n0).toNatClampNeg ≤ n0 ∧ (0 : Int32).toNatClampNeg + (if nI n1 < nI n0 then nI n1 else nI n0).toNatClampNeg ≤ n1 := by
  have z : (0 : Int32).toNatClampNeg = 0 := rfl
  rw [z]
  by_cases c : nI n1 < nI n0
  · have := (nI_ltI h1 h0).mp c
    rw [if_pos c, nI_clamp h1]
    exact ⟨nI_pos h1, by omega, by omega⟩
  · have : ¬ n1 < n0 := fun q => c ((nI_ltI h1 h0).mpr q)
    rw [if_neg c, nI_clamp h0]
    exact ⟨nI_pos h0, by omega, by omega⟩
def jn {α β : Type} (f : α) (g : α → β) : β := g f
theorem jn_e {α β : Type} {f : α} {g : α → β} {r : β} (h : jn f g = r) : ∃ k, k = f ∧ g k = r := ⟨f, rfl, h⟩
theorem fuelN_nI {a b : Nat} (ha : a < 2 ^ 31) (hb : b < 2 ^ 31) : fuelN (nI a) (nI b) = b - a := by
  unfold fuelN
  rw [nI_toInt ha, nI_toInt hb]
  omega
/-! what a method that throws needs of the machine: its texts, two statics, some casts -/
def exN (c : Int32) : String := if c = 1 then "java/lang/IndexOutOfBoundsException" else if c = 2 then "java/lang/IllegalArgumentException" else "java/lang/IllegalStateException"
def wZs (cI : ClassId) (ah : Nat → Nat → Nat) (Z : Nat → Pic) : va_W := wSt cI (ah 0) (Z 0) ++ (wSt cI (ah 1) (Z 1) ++ (wSt cI (ah 2) (Z 2) ++ (wSt cI (ah 3) (Z 3) ++ (wSt cI (ah 4) (Z 4) ++ wSt cI (ah 5) (Z 5)))))
theorem va_D_nil (A : Nat → Prop) : va_D A [] := ⟨fun i j p q h => by simp at h, fun k q h => by simp at h⟩
theorem base_of {base sz : Nat} {ws : va_W} (hD : va_D (fun q => base ≤ q) ws) (hb : base ≤ sz) : ∀ q, va_A ws sz q → base ≤ q := by
  rintro q (⟨k, e, h⟩ | h)
  · exact hD.2 k _ h
  · exact Nat.le_trans hb h
theorem thr_F {A : Nat → Prop} {s t : State} {H : Heap} {locs : List Loc} (hS : va_S A s.heap H locs) (h1 : H.size ≤ t.heap.size) (h2 : ∀ q : Nat, q < H.size → t.heap[q]? = H[q]?) : va_F A s t := ⟨Nat.le_trans hS.1 h1, fun q hq hn => (h2 q (Nat.lt_of_lt_of_le hq hS.1)).trans (hS.2.1 q hq hn)⟩
theorem thr_P {D : va_G} {cl : List vw_C} {ws : va_W} {H : Heap} {t : State} (hP : va_P D cl ws H) (h2 : ∀ q : Nat, q < H.size → t.heap[q]? = H[q]?) : va_P D cl ws t.heap := hP.kept (fun k q hq => h2 q.1 (vx_lt hP hq))
def mtq {α β : Type} (o : Option α) (a : β) (f : α → β) : β := match o with
  | none => a
  | some e => f e
theorem mtq_e {α β : Type} {o : Option α} {a : β} {f : α → β} {r : β} (h : mtq o a f = r) : (o = none ∧ a = r) ∨ ∃ e, o = some e ∧ f e = r := by
  cases o with
  | none => exact Or.inl ⟨rfl, h⟩
  | some e => exact Or.inr ⟨e, rfl, h⟩
def ckn {α : Type} (z : UInt64) (t : Option α) : Option α := if z &&& 0x7fffffffffffffff ≤ 0x7ff0000000000000 then t else none
theorem ckn_some {α : Type} {z : UInt64} {t : Option α} {r : α} (h : ckn z t = some r) : vf_n64 z ∧ t = some r := by
  unfold ckn at h
  by_cases c : z &&& 0x7fffffffffffffff ≤ 0x7ff0000000000000
  · rw [if_pos c] at h; exact ⟨c, h⟩
  · rw [if_neg c] at h; cases h
theorem P_at {D : va_G} {cl : List vw_C} {ws : va_W} {H : Heap} {t : State} (ht : t.heap = H) (hP : va_P D cl ws H) : va_P D cl ws t.heap := by rw [ht]; exact hP
theorem bd_n {α β : Type} {x y : α} {f : α → β} {r : β} (e : y = x) (h : bd x f = r) : f y = r := by rw [e]; exact h
theorem bd2_n {α β γ : Type} {x : α × β} {a : α} {b : β} {f : α → β → γ} {r : γ} (e : (a, b) = x) (h : bd2 x f = r) : f a b = r := by rw [← e] at h; exact h
theorem bd3_n {α β γ δ : Type} {x : α × β × γ} {a : α} {b : β} {c : γ} {f : α → β → γ → δ} {r : δ} (e : (a, b, c) = x) (h : bd3 x f = r) : f a b c = r := by rw [← e] at h; exact h
/-- the texts of the exceptions, by their places -/
def strT : Nat → String
  | 62 => "an argument is out of range"
  | 73 => "there are 12 dishes"
  | 90 => "no such dish"
  | 93 => "days out of range, or both dishes are the same"
  | 113 => "the plan would not be sound"
  | 125 => "there are 6 guests"
  | 134 => "no such guest"
  | 136 => "days out of range"
  | 145 => "a dish in the plan would be vetoed"
  | 147 => "tastes out of range"
  | 152 => "no such setting"
  | 161 => "value out of range"
  | 169 => "the cost of a week would be above the budget"
  | 174 => "no such day or dish"
  | 183 => "there is a reason against it"
  | 198 => "no such day or part"
  | 200 => "there is no dish"
  | 202 => "no such day"
  | 211 => "the plan could not stand"
  | 228 => "code is not 33 to 126"
  | 233 => "the buffer has 60 characters"
  | 248 => "the buffer is not a complete plan"
  | 266 => "no such snapshot"
  | 275 => "the snapshot was not taken"
  | 286 => "there is no saved state"
  | 291 => "what is not 0 to 8"
  | 296 => "what is not 0 to 2"
  | 301 => "what is not 0 to 4"
  | 310 => "what is not 0 to 13"
  | 315 => "no such day, part or dish"
  | _ => ""
def strK : List Nat := [62, 73, 90, 93, 113, 125, 134, 136, 145, 147, 152, 161, 169, 174, 183, 198, 200, 202, 211, 228, 233, 248, 266, 275, 286, 291, 296, 301, 310, 315]
def exNs : List String := ["java/lang/IndexOutOfBoundsException", "java/lang/IllegalArgumentException", "java/lang/IllegalStateException"]
def exSs : List String := ["java/lang/RuntimeException", "java/lang/Exception", Bundle.tN]
def XW (base : Nat) (U : State) : Prop := (∀ k ∈ strK, ∃ sa, vk_R RX6 k (strT k) sa U) ∧ vx_Zq Bundle.tN "UNASSIGNED_STACK" Bundle.steD (fun q => base ≤ q) U U.heap ∧ vx_Zq Bundle.tN "SUPPRESSED_SENTINEL" Bundle.listD (fun q => base ≤ q) U U.heap ∧ (∀ X ∈ exNs, va_Nw (.castable X X) U) ∧ ∀ Y ∈ exSs, va_Nw (.declares (Bundle.initS Y)) U
def pX (D : va_G) (tys : List (ClassId × FieldType)) (ws : va_W) (base sz : Nat) : State → Prop := fun U => U.heap.size = sz ∧ va_P D vwCl ws U.heap ∧ va_K D vwCl tys U ∧ va_D (fun q => base ≤ q) ws ∧ NW U ∧ base ≤ sz ∧ XW base U
theorem thr_at1 {args : Array Value} {s : State} {base : Nat} (hXW : XW base s) (h1 : ∀ w ∈ (vx_atS RX6 92 "java/lang/IndexOutOfBoundsException" ["java/lang/RuntimeException", "java/lang/Exception"]).filter goodWord, w.before args s = true) : ∀ w ∈ vx_atS RX6 92 "java/lang/IndexOutOfBoundsException" ["java/lang/RuntimeException", "java/lang/Exception"], w.before args s = true := vx_hat (B := [.castable "java/lang/IndexOutOfBoundsException" "java/lang/IndexOutOfBoundsException", .declares (Bundle.initS "java/lang/RuntimeException"), .declares (Bundle.initS "java/lang/Exception"), .declares (Bundle.initS Bundle.tN)]) h1 (by decide +kernel) (vx_c (va_Nw.use rfl (hXW.2.2.2.1 "java/lang/IndexOutOfBoundsException" (by decide))) (vx_c (va_Nw.use rfl (hXW.2.2.2.2 _ (List.mem_of_getElem? (i := 0) rfl))) (vx_c (va_Nw.use rfl (hXW.2.2.2.2 _ (List.mem_of_getElem? (i := 1) rfl))) (vx_c (va_Nw.use rfl (hXW.2.2.2.2 _ (List.mem_of_getElem? (i := 2) rfl))) vx_n))))
theorem thr_at2 {args : Array Value} {s : State} {base : Nat} (hXW : XW base s) (h1 : ∀ w ∈ (vx_atS RX6 64 "java/lang/IllegalArgumentException" ["java/lang/RuntimeException", "java/lang/Exception"]).filter goodWord, w.before args s = true) : ∀ w ∈ vx_atS RX6 64 "java/lang/IllegalArgumentException" ["java/lang/RuntimeException", "java/lang/Exception"], w.before args s = true := vx_hat (B := [.castable "java/lang/IllegalArgumentException" "java/lang/IllegalArgumentException", .declares (Bundle.initS "java/lang/RuntimeException"), .declares (Bundle.initS "java/lang/Exception"), .declares (Bundle.initS Bundle.tN)]) h1 (by decide +kernel) (vx_c (va_Nw.use rfl (hXW.2.2.2.1 "java/lang/IllegalArgumentException" (by decide))) (vx_c (va_Nw.use rfl (hXW.2.2.2.2 _ (List.mem_of_getElem? (i := 0) rfl))) (vx_c (va_Nw.use rfl (hXW.2.2.2.2 _ (List.mem_of_getElem? (i := 1) rfl))) (vx_c (va_Nw.use rfl (hXW.2.2.2.2 _ (List.mem_of_getElem? (i := 2) rfl))) vx_n))))
theorem thr_at3 {args : Array Value} {s : State} {base : Nat} (hXW : XW base s) (h1 : ∀ w ∈ (vx_atS RX6 75 "java/lang/IllegalStateException" ["java/lang/RuntimeException", "java/lang/Exception"]).filter goodWord, w.before args s = true) : ∀ w ∈ vx_atS RX6 75 "java/lang/IllegalStateException" ["java/lang/RuntimeException", "java/lang/Exception"], w.before args s = true := vx_hat (B := [.castable "java/lang/IllegalStateException" "java/lang/IllegalStateException", .declares (Bundle.initS "java/lang/RuntimeException"), .declares (Bundle.initS "java/lang/Exception"), .declares (Bundle.initS Bundle.tN)]) h1 (by decide +kernel) (vx_c (va_Nw.use rfl (hXW.2.2.2.1 "java/lang/IllegalStateException" (by decide))) (vx_c (va_Nw.use rfl (hXW.2.2.2.2 _ (List.mem_of_getElem? (i := 0) rfl))) (vx_c (va_Nw.use rfl (hXW.2.2.2.2 _ (List.mem_of_getElem? (i := 1) rfl))) (vx_c (va_Nw.use rfl (hXW.2.2.2.2 _ (List.mem_of_getElem? (i := 2) rfl))) vx_n))))
