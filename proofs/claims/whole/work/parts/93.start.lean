set_option maxHeartbeats 4000000 in
set_option maxRecDepth 100000 in
theorem whole_start {p : Program} {e : Env} {s : State} {m : MethodId} {below : List Frame} {meth : Method} {c : Code} (l : Launch) (hflags : l.flags = flags0) {b L : Nat} {xs : Nat → Int32} (hL : L ≤ 2560) (C0 : lw_At p s m meth c b L xs) : W p l e room_1 s m #[Value.ref b] below meth c s.heap [] 0 0 (lw_Z below #[Value.ref b] s) (entryFrame m ([Value.ref b] : List Value).toArray 9) := by
  obtain ⟨hx, hb, hr, hml, hown, hts0, hX, hbl, hlocks, hgv⟩ := id C0
  have hown : s.vm.findClass RL = some m.cls := hown
  have hfl : l.stackTraces = false := by
    unfold Launch.stackTraces
    rw [hflags]
    decide +kernel
  have hts : ∀ w ∈ wsL_law, w.before #[Value.ref b] s = true := fun w h => hts0 w (wsL_law_in w h)
  obtain ⟨dC, dI, cI, cZ, cS, cJ, hK⟩ := start_K hts0
  have hN := start_NW hts0
  have hXW := start_XW (hK.1 6 _ rfl).2.1 hts0 hgv
  have hNC := start_NC hgv
  have hAO : va_AO RX5 s := va_AO.of (A := #[Value.ref b]) (hts0 _ (t_1 (List.mem_of_getElem? (i := 135) rfl)))
  have C : LC dC dI cI cZ cS cJ p s m c b L xs := ⟨hx, hb, hml, hown, hts, hK, hN, hXW, hNC, hX, hbl, hL⟩
  have hK3 := hK.sub (tys' := tyS cI cZ cS) [0, 1, 2] rfl
  have hA : ∀ q : Nat, s.heap.size ≤ q → (fun q : Nat => s.heap.size ≤ q) q := fun _ h => h
  have hS : va_S (fun q : Nat => s.heap.size ≤ q) s.heap s.heap [] := va_S.rf
  have hP : va_P (dC, dI) vwCl [] s.heap := fun k q h => by simp at h
  have hD : va_D (fun q : Nat => s.heap.size ≤ q) [] := va_D_nil _
  have hl := lv_entry ([.ref b]) (n := 9) (Nat.le_of_ble_eq_true rfl)
  rw [lg_entry_eq]
  generalize (lg_sl ([.ref b]) ++ List.replicate (9 - (lg_sl ([.ref b])).length) Slot.unset).toArray = ls at hl ⊢
  have hl : lv_has ls 9 [(0, .ref b)] := hl
  refine va_new (ci := 6) (fs := [.null, .null, .null, .null, .null, .null, .null]) (C := RX6) (T := TX6) (N := 7) hx hb hts inlX6 tyX6 tyX6_ok hown (hw_ hts 0 rfl) (hw_ hts 1 rfl) (hw_ hts 2 rfl) hK3 hP hD hS hA rfl (fun j hj => dfl6 j hj) (Nat.le_of_ble_eq_true rfl) (Nat.le_of_ble_eq_true rfl) dL_law_0 (fun q1 H1 hP hD hS => ?_)
  have hP : va_P (dC, dI) vwCl [(q1, .inr (6, [.null, .null, .null, .null, .null, .null, .null]))] H1 := hP
  have hD : va_D (fun q : Nat => s.heap.size ≤ q) [(q1, .inr (6, [.null, .null, .null, .null, .null, .null, .null]))] := hD
  refine lv_dup hx hb dL_law_3 rfl ?_
  have hF := va_free (wc := [(q1, .inr (6, [.null, .null, .null, .null, .null, .null, .null]))]) hD hS hA [0] rfl
  refine va_callv (va_runI (As := []) (rest := [.ref q1]) ⟨hx, hb, hml, hown, hts⟩ (met_X6_init l dC dI cI cZ cS q1 H1.size) (cwI 0 hts gL_law_X6_init rfl rfl rfl (hw_ hts 2 rfl) (hw_ hts 7 rfl) (hw_ hts 8 rfl) rfl (by decide +kernel) ⟨(Nat.le_of_ble_eq_true rfl), (Nat.le_of_ble_eq_true rfl)⟩) (pSO (wc := [(q1, .inr (6, [.null, .null, .null, .null, .null, .null, .null]))]) hK3 hP hD hN hAO [0] rfl (by decide)) rfl rfl hl.1 rfl (lv_room (Nat.le_of_ble_eq_true rfl)) dL_law_4 ⟨(Nat.le_of_ble_eq_true rfl), (Nat.le_of_ble_eq_true rfl)⟩) hS (fun q _ h => hF q h) hF (fun u t H2 locs ht hvm hw hB hz1 hk1 hS => ?_)
  obtain ⟨aF, aN, aT, aL, aO, aH, ah, aP, aX⟩ := u
  try dsimp only at hw hB
  obtain ⟨hP1, hD1⟩ := hB
  rw [ht] at hP1
  obtain ⟨hP9, hD9⟩ := va_join (wr := []) (w1 := FW cI cZ cS aF aN aT aL aO aH ah aP aX) hP hD [0] [] rfl rfl (by decide) (by decide) hk1 hF hP1 hD1
  subst hw
  have hP : va_P (dC, dI) vwCl (FW cI cZ cS aF aN aT aL aO aH ah aP aX) H2 := hP9
  have hD : va_D (fun q : Nat => s.heap.size ≤ q) (FW cI cZ cS aF aN aT aL aO aH ah aP aX) := hD9
  refine lv_astore_n (lv' := [(1, .ref (aF 0)), (0, .ref b)]) hx hb dL_law_7 rfl hl (by decide) rfl (fun ls hl => ?_)
  refine va_new (ci := 7) (fs := [.null, .int 0, .null, .null, .null, .int 0, .null, .int 0, .null, .null, .null, .int 0, .int 0, .int 0, .long 0]) (C := RX7) (T := TX7) (N := 15) hx hb hts inlX7 tyX7 tyX7_ok hown (hw_ hts 3 rfl) (hw_ hts 4 rfl) (hw_ hts 5 rfl) hK3 hP hD hS hA rfl (fun j hj => dfl7 j hj) (Nat.le_of_ble_eq_true rfl) (Nat.le_of_ble_eq_true rfl) dL_law_8 (fun q2 H3 hP hD hS => ?_)
  have hP : va_P (dC, dI) vwCl (FW cI cZ cS aF aN aT aL aO aH ah aP aX ++ [(q2, .inr (7, [.null, .int 0, .null, .null, .null, .int 0, .null, .int 0, .null, .null, .null, .int 0, .int 0, .int 0, .long 0]))]) H3 := hP
  have hD : va_D (fun q : Nat => s.heap.size ≤ q) (FW cI cZ cS aF aN aT aL aO aH ah aP aX ++ [(q2, .inr (7, [.null, .int 0, .null, .null, .null, .int 0, .null, .int 0, .null, .null, .null, .int 0, .int 0, .int 0, .long 0]))]) := hD
  refine lv_dup hx hb dL_law_11 rfl ?_
  have hF := va_free (wc := [(q2, .inr (7, [.null, .int 0, .null, .null, .null, .int 0, .null, .int 0, .null, .null, .null, .int 0, .int 0, .int 0, .long 0]))]) hD hS hA [100] rfl
  refine va_callv (va_runI (As := []) (rest := [.ref q2]) ⟨hx, hb, hml, hown, hts⟩ (met_X7_init l dC dI cI cZ cS q2 H3.size) (cwI 0 hts gL_law_X7_init rfl rfl rfl (hw_ hts 5 rfl) (hw_ hts 95 rfl) (hw_ hts 96 rfl) rfl (by decide +kernel) ⟨(Nat.le_of_ble_eq_true rfl), (Nat.le_of_ble_eq_true rfl)⟩) (pS (wc := [(q2, .inr (7, [.null, .int 0, .null, .null, .null, .int 0, .null, .int 0, .null, .null, .null, .int 0, .int 0, .int 0, .long 0]))]) hK3 hP hD hN [100] rfl (by decide)) rfl rfl hl.1 rfl (lv_room (Nat.le_of_ble_eq_true rfl)) dL_law_12 ⟨(Nat.le_of_ble_eq_true rfl), (Nat.le_of_ble_eq_true rfl)⟩) hS (fun q _ h => hF q h) hF (fun aM t H4 locs ht hvm hw hB hz1 hk1 hS => ?_)
  try dsimp only at hw hB
  obtain ⟨hP1, hD1⟩ := hB
  rw [ht] at hP1
  obtain ⟨hP9, hD9⟩ := va_join (wr := FW cI cZ cS aF aN aT aL aO aH ah aP aX) (w1 := wMo cI aM (M7 84) 0) hP hD [100] [0, 1, 2, 3, 4, 5, 6, 7, 8, 9, 10, 11, 12, 13, 14, 15, 16, 17, 18, 19, 20, 21, 22, 23, 24, 25, 26, 27, 28, 29, 30, 31, 32, 33, 34, 35, 36, 37, 38, 39, 40, 41, 42, 43, 44, 45, 46, 47, 48, 49, 50, 51, 52, 53, 54, 55, 56, 57, 58, 59, 60, 61, 62, 63, 64, 65, 66, 67, 68, 69, 70, 71, 72, 73, 74, 75, 76, 77, 78, 79, 80, 81, 82, 83, 84, 85, 86, 87, 88, 89, 90, 91, 92, 93, 94, 95, 96, 97, 98, 99] rfl rfl (by decide) (by decide) hk1 hF hP1 hD1
  subst hw
  have hP : va_P (dC, dI) vwCl (FW cI cZ cS aF aN aT aL aO aH ah aP aX ++ wMo cI aM (M7 84) 0) H4 := hP9
  have hD : va_D (fun q : Nat => s.heap.size ≤ q) (FW cI cZ cS aF aN aT aL aO aH ah aP aX ++ wMo cI aM (M7 84) 0) := hD9
  refine lv_astore_n (lv' := [(2, .ref (aM 0)), (1, .ref (aF 0)), (0, .ref b)]) hx hb dL_law_15 rfl hl (by decide) rfl (fun ls hl => ?_)
  refine lv_iconst (v := (1 : Int32)) hx hb dL_law_16 (by decide) ?_
  refine va_newa (atype := .long) (ty := .long) (a0 := (1, .inr (.inl (fun _ => 0)))) (n := (1 : Int32)) (N' := 1) hx hb (hw_ hts 6 rfl) rfl hK hP hD hS hA (fun _ => rfl) (by decide) rfl (Nat.le_of_ble_eq_true rfl) (Nat.le_of_ble_eq_true rfl) (Nat.le_of_ble_eq_true rfl) dL_law_17 (fun q3 cA H5 hK1 hP hD hS => ?_)
  have e1 := ty_eq 3 hK1 rfl
  rw [e1] at hP hD
  clear hK1 e1
  have hP : va_P (dC, dI) vwCl (LWo cI cZ cS cJ aF aN aT aL aO aH ah aP aX aM q3 S00 S00 P00 P00 (fun _ => S00) P00 P00 (M7 84) 0 (fun _ => 0)) H5 := P_map hP [0, 1, 2, 3, 4, 5, 6, 7, 8, 9, 10, 11, 12, 13, 14, 15, 16, 17, 18, 19, 20, 21, 22, 23, 24, 25, 26, 27, 28, 29, 30, 31, 32, 33, 34, 35, 36, 37, 38, 39, 40, 41, 42, 43, 44, 45, 46, 47, 48, 49, 50, 51, 52, 53, 54, 55, 56, 57, 58, 59, 60, 61, 62, 63, 64, 65, 66, 67, 68, 69, 70, 71, 72, 73, 74, 75, 76, 77, 78, 79, 80, 81, 82, 83, 84, 85, 86, 87, 88, 89, 90, 91, 92, 93, 94, 95, 96, 97, 98, 99, 100, 101, 102, 103, 104, 105, 106, 107, 108, 109] rfl
  have hD : va_D (fun q : Nat => s.heap.size ≤ q) (LWo cI cZ cS cJ aF aN aT aL aO aH ah aP aX aM q3 S00 S00 P00 P00 (fun _ => S00) P00 P00 (M7 84) 0 (fun _ => 0)) := D_addr hD rfl
  refine lv_astore_n (lv' := [(3, .ref q3), (2, .ref (aM 0)), (1, .ref (aF 0)), (0, .ref b)]) hx hb dL_law_19 rfl hl (by decide) rfl (fun ls hl => ?_)
  refine lv_iconst (v := (0 : Int32)) hx hb dL_law_20 (by decide) ?_
  refine lv_istore (lv' := [(4, .int (0 : Int32)), (3, .ref q3), (2, .ref (aM 0)), (1, .ref (aF 0)), (0, .ref b)]) hx hb dL_law_21 hl (by decide) rfl (fun ls hl => ?_)
  refine W.widen (k := 110) (n := 3539) (Nat.le_of_ble_eq_true rfl) (Nat.le_of_ble_eq_true rfl) ?_
  exact law_loop l hfl C hr hlocks 512 0 110 3539 (by omega) (by omega) (Nat.le_of_ble_eq_true rfl) (Nat.le_of_ble_eq_true rfl) H5 _ ⟨S00, S00, P00, P00, (fun _ => S00), P00, P00, M7 84, 0, (fun _ => 0), INV0, hP, hD⟩ hS ls (lv_sub hl [4, 3, 2, 1, 0] rfl)
