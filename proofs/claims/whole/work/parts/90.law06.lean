set_option maxHeartbeats 4000000 in
set_option maxRecDepth 100000 in
theorem law_c_count {p : Program} {e : Env} {s : State} {m : MethodId} {below : List Frame} {meth : Method} {c : Code} {Q : State → Prop} (l : Launch) (hfl : l.stackTraces = false) {dC : Nat → ClassId} {dI : Nat → Nat → Nat} {cI cZ cS cJ : ClassId} {b L : Nat} {xs : Nat → Int32} {aF aN aT aL aO aH : Nat → Nat} {ah : Nat → Nat → Nat} {aP aX aM : Nat → Nat} {ao : Nat} (C : LC dC dI cI cZ cS cJ p s m c b L xs) {i : Nat} (hi : i + 5 ≤ L) {cells slots : Nat} (hc : cells + 1 ≤ 601024) (hsl : slots + 6 ≤ 7293034) {H : Heap} {locs : List Loc} (I : LI dC dI cI cZ cS cJ aF aN aT aL aO aH ah aP aX aM ao s H) (hS : va_S (fun q : Nat => s.heap.size ≤ q) s.heap H locs) {ls : Array Slot} (hl : lv_has ls 9 [(0, .ref b), (1, .ref (aF 0)), (2, .ref (aM 0)), (3, .ref ao), (4, .int (nI i))])
    (k : ∀ (H : Heap) (locs : List Loc), LI dC dI cI cZ cS cJ aF aN aT aL aO aH ah aP aX aM ao s H → va_S (fun q : Nat => s.heap.size ≤ q) s.heap H locs → ∀ ls : Array Slot, lv_has ls 9 [(0, .ref b), (1, .ref (aF 0)), (2, .ref (aM 0)), (3, .ref ao), (4, .int (nI i))] → W p l e room_1 s m #[Value.ref b] below meth c H locs (cells + 1) (slots + 6) Q (F0 m 2002 ls [])) : W p l e room_1 s m #[Value.ref b] below meth c H locs cells slots Q (F0 m 1495 ls []) := by
  obtain ⟨hx, hb, hml, hown, hts, hK, hN, hXW, hNC, hX, hbl, hL⟩ := C
  obtain ⟨S, R, Y, G, Z, N, T, M, hs, f, hI, hP, hD⟩ := I
  have hA : ∀ q : Nat, s.heap.size ≤ q → (fun q : Nat => s.heap.size ≤ q) q := fun _ h => h
  have hK3 := hK.sub (tys' := tyS cI cZ cS) [0, 1, 2] rfl
  obtain ⟨c0, r0, Y9, b0, M9, e6, e7, hI, hAn⟩ := st_count hI Y (xs (i + 1))
  refine lv_aload_n hx hb dL_law_1495 rfl (lv_at hl 1 rfl) ?_
  refine law_rd (k := 1) hx hb hX hbl hS hi hL (by decide) (by decide) (lv_at hl 0 rfl) (lv_at hl 4 rfl) dL_law_1496 dL_law_1497 dL_law_1499 dL_law_1500 dL_law_1501 ?_
  refine lv_aload_n hx hb dL_law_1502 rfl (lv_at hl 3 rfl) ?_
  have hF := va_free (wc := (wFm aF aN aT aL aO aH aP aX ++ (wSt cI aN S ++ (wLo cI aL Y ++ (wOu aO aN aL ++ (wHi cS aH ah G ++ (wSn cI cZ aP N)))))) ++ wOt cJ ao f) hD hS hA [0, 1, 2, 3, 4, 5, 6, 7, 8, 9, 10, 11, 23, 24, 25, 26, 27, 28, 95, 96, 97, 109] rfl
  refine va_calli (vx_runSW (As := [.ref (aF 0), .int (xs (i + 1)), .ref ao]) (rest := []) ⟨hx, hb, hml, hown, hts⟩ (met_L_count l hfl dC dI cI cZ cS cJ aF aN aT aL aO aH ah aP aX ao f S Y G N s.heap.size H.size (xs (i + 1)) (c0, r0, Y9) e6 (fun c r q => by obtain ⟨u, hu⟩ := q; cases hu; exact an_ks hAn)) (vx_cwSW 3 hts gL_law_L_count rfl rfl rfl (by decide +kernel) ⟨(Nat.le_of_ble_eq_true rfl), (Nat.le_of_ble_eq_true rfl)⟩) (pLS (wc := (wFm aF aN aT aL aO aH aP aX ++ (wSt cI aN S ++ (wLo cI aL Y ++ (wOu aO aN aL ++ (wHi cS aH ah G ++ (wSn cI cZ aP N)))))) ++ wOt cJ ao f) hK hP hD hN hXW hNC hS [0, 1, 2, 3, 4, 5, 6, 7, 8, 9, 10, 11, 23, 24, 25, 26, 27, 28, 95, 96, 97, 109] rfl (by decide)) rfl rfl hl.1 rfl (lv_room (Nat.le_of_ble_eq_true rfl)) dL_law_1503 ⟨hc, hsl⟩) hS (fun q _ h => hF q h) hF (fun k9 u t H1 locs ht hvm hw hB hz1 hk1 hS => ?_)
  obtain ⟨u1, f9⟩ := u
  obtain ⟨c1, r1, hcr, hwr⟩ := hw
  try dsimp only at hcr hwr
  cases hcr
  have hcm := an_wrp (by decide) (by decide) (by decide) hwr hAn
  rw [ht] at hB
  have hB : va_P (dC, dI) vwCl ((wFm aF aN aT aL aO aH aP aX ++ (wSt cI aN S ++ (wLo cI aL Y9 ++ (wOu aO aN aL ++ (wHi cS aH ah G ++ (wSn cI cZ aP N)))))) ++ wOt cJ ao f9) H1 := hB
  have hP := wrk2 (w2 := wFm aF aN aT aL aO aH aP aX ++ (wSt cI aN S ++ (wSt cI aT R ++ (wLo cI aL Y9 ++ (wOu aO aN aL ++ (wHi cS aH ah G ++ (wZs cI ah Z ++ (wSn cI cZ aP N ++ (wTx cI aX T ++ (wMo cI aM M hs ++ (wOt cJ ao f9))))))))))) (wr := wSt cI aT R ++ (wZs cI ah Z ++ (wTx cI aX T ++ (wMo cI aM M hs)))) hP hD [0, 1, 2, 3, 4, 5, 6, 7, 8, 9, 10, 11, 23, 24, 25, 26, 27, 28, 95, 96, 97, 109] [12, 13, 14, 15, 16, 17, 18, 19, 20, 21, 22, 29, 30, 31, 32, 33, 34, 35, 36, 37, 38, 39, 40, 41, 42, 43, 44, 45, 46, 47, 48, 49, 50, 51, 52, 53, 54, 55, 56, 57, 58, 59, 60, 61, 62, 63, 64, 65, 66, 67, 68, 69, 70, 71, 72, 73, 74, 75, 76, 77, 78, 79, 80, 81, 82, 83, 84, 85, 86, 87, 88, 89, 90, 91, 92, 93, 94, 98, 99, 100, 101, 102, 103, 104, 105, 106, 107, 108] rfl rfl (by decide) hk1 hB [88, 89, 90, 91, 92, 93, 94, 95, 96, 97, 98, 99, 0, 1, 2, 3, 4, 5, 6, 7, 8, 9, 10, 100, 101, 102, 103, 104, 105, 11, 12, 13, 14, 15, 16, 17, 18, 19, 20, 21, 22, 23, 24, 25, 26, 27, 28, 29, 30, 31, 32, 33, 34, 35, 36, 37, 38, 39, 40, 41, 42, 43, 44, 45, 46, 47, 48, 49, 50, 51, 52, 53, 54, 55, 56, 57, 58, 59, 60, 61, 62, 63, 64, 65, 66, 67, 68, 69, 70, 71, 72, 73, 74, 75, 76, 106, 107, 108, 77, 78, 79, 80, 81, 82, 83, 84, 85, 86, 87, 109] rfl
  have hD := D_addr (w1 := wFm aF aN aT aL aO aH aP aX ++ (wSt cI aN S ++ (wSt cI aT R ++ (wLo cI aL Y9 ++ (wOu aO aN aL ++ (wHi cS aH ah G ++ (wZs cI ah Z ++ (wSn cI cZ aP N ++ (wTx cI aX T ++ (wMo cI aM M hs ++ (wOt cJ ao f9))))))))))) hD rfl
  refine lv_istore (lv' := [(5, .int k9), (0, .ref b), (1, .ref (aF 0)), (2, .ref (aM 0)), (3, .ref ao), (4, .int (nI i))]) hx hb dL_law_1506 hl (by decide) rfl (fun ls hl => ?_)
  refine lv_aload_n hx hb dL_law_1508 rfl (lv_at hl 3 rfl) ?_
  refine law_rd (k := 1) hx hb hX hbl hS hi hL (by decide) (by decide) (lv_at hl 1 rfl) (lv_at hl 5 rfl) dL_law_1509 dL_law_1510 dL_law_1512 dL_law_1513 dL_law_1514 ?_
  have hF := va_free (wc := wMo cI aM M hs) hD hS hA [100, 101, 102, 103, 104, 105, 106, 107, 108] rfl
  refine va_calli (va_runV (As := [.int (xs (i + 1))]) (rest := []) ⟨hx, hb, hml, hown, hts⟩ (met_X7_count l dC dI cI cZ cS aM M hs H1.size (xs (i + 1)) _ e7) (cwV 1 hts gL_law_X7_count rfl rfl rfl (by decide +kernel) ⟨(Nat.le_of_ble_eq_true rfl), (Nat.le_of_ble_eq_true rfl)⟩) (pV (wc := wMo cI aM M hs) (ci := 7) (q0 := 100) hK3 hP hD hN [100, 101, 102, 103, 104, 105, 106, 107, 108] rfl (by decide) rfl rfl) rfl rfl hl.1 rfl (lv_room (Nat.le_of_ble_eq_true rfl)) dL_law_1515 ⟨hc, hsl⟩) hS (fun q _ h => hF q h) hF (fun b9 u t H2 locs ht hvm hw hB hz1 hk1 hS => ?_)
  try dsimp only at hw hB
  cases hw
  rw [ht] at hB
  have hP := wrk2 (w2 := wFm aF aN aT aL aO aH aP aX ++ (wSt cI aN S ++ (wSt cI aT R ++ (wLo cI aL Y9 ++ (wOu aO aN aL ++ (wHi cS aH ah G ++ (wZs cI ah Z ++ (wSn cI cZ aP N ++ (wTx cI aX T ++ (wMo cI aM M9 hs ++ (wOt cJ ao f9))))))))))) (wr := wFm aF aN aT aL aO aH aP aX ++ (wSt cI aN S ++ (wSt cI aT R ++ (wLo cI aL Y9 ++ (wOu aO aN aL ++ (wHi cS aH ah G ++ (wZs cI ah Z ++ (wSn cI cZ aP N ++ (wTx cI aX T ++ (wOt cJ ao f9)))))))))) hP hD [100, 101, 102, 103, 104, 105, 106, 107, 108] [0, 1, 2, 3, 4, 5, 6, 7, 8, 9, 10, 11, 12, 13, 14, 15, 16, 17, 18, 19, 20, 21, 22, 23, 24, 25, 26, 27, 28, 29, 30, 31, 32, 33, 34, 35, 36, 37, 38, 39, 40, 41, 42, 43, 44, 45, 46, 47, 48, 49, 50, 51, 52, 53, 54, 55, 56, 57, 58, 59, 60, 61, 62, 63, 64, 65, 66, 67, 68, 69, 70, 71, 72, 73, 74, 75, 76, 77, 78, 79, 80, 81, 82, 83, 84, 85, 86, 87, 88, 89, 90, 91, 92, 93, 94, 95, 96, 97, 98, 99, 109] rfl rfl (by decide) hk1 hB [0, 1, 2, 3, 4, 5, 6, 7, 8, 9, 10, 11, 12, 13, 14, 15, 16, 17, 18, 19, 20, 21, 22, 23, 24, 25, 26, 27, 28, 29, 30, 31, 32, 33, 34, 35, 36, 37, 38, 39, 40, 41, 42, 43, 44, 45, 46, 47, 48, 49, 50, 51, 52, 53, 54, 55, 56, 57, 58, 59, 60, 61, 62, 63, 64, 65, 66, 67, 68, 69, 70, 71, 72, 73, 74, 75, 76, 77, 78, 79, 80, 81, 82, 83, 84, 85, 86, 87, 88, 89, 90, 91, 92, 93, 94, 95, 96, 97, 98, 99, 101, 102, 103, 104, 105, 106, 107, 108, 109, 100] rfl
  have hD := D_addr (w1 := wFm aF aN aT aL aO aH aP aX ++ (wSt cI aN S ++ (wSt cI aT R ++ (wLo cI aL Y9 ++ (wOu aO aN aL ++ (wHi cS aH ah G ++ (wZs cI ah Z ++ (wSn cI cZ aP N ++ (wTx cI aX T ++ (wMo cI aM M9 hs ++ (wOt cJ ao f9))))))))))) hD rfl
  refine lv_istore (lv' := [(6, .int b0), (5, .int k9), (0, .ref b), (1, .ref (aF 0)), (2, .ref (aM 0)), (3, .ref ao), (4, .int (nI i))]) hx hb dL_law_1518 hl (by decide) rfl (fun ls hl => ?_)
  refine lv_aload_n hx hb dL_law_1520 rfl (lv_at hl 4 rfl) ?_
  refine va_calli (va_runV (As := []) (rest := []) ⟨hx, hb, hml, hown, hts⟩ (met_X7_thrown l dC dI cI cZ cS aM M9 hs H2.size) (cwV 0 hts gL_law_X7_thrown rfl rfl rfl (by decide +kernel) ⟨(Nat.le_of_ble_eq_true rfl), (Nat.le_of_ble_eq_true rfl)⟩) (pV (wc := wMo cI aM M9 hs) (ci := 7) (q0 := 100) hK3 hP hD hN [100, 101, 102, 103, 104, 105, 106, 107, 108] rfl (by decide) rfl rfl) rfl rfl hl.1 rfl (lv_room (Nat.le_of_ble_eq_true rfl)) dL_law_1521 ⟨hc, hsl⟩) hS (fun q _ h => a0_in hS hA q h) (a0_in hS hA) (fun r9 u t H3 locs ht hvm hw hB hz1 hk1 hS => ?_)
  clear hB
  have hP := rdk hP hk1
  have hw : r9 = M9 7 0 := hw
  subst hw
  refine lv_iload hx hb dL_law_1524 (lv_at hl 1 rfl) ?_
  refine lv_icmp_eq (tgt := 1531) hx hb dL_law_1526 (by decide) (fun _ => ?_) (fun q => absurd hcm.1.symm q)
  refine lv_iload hx hb dL_law_1531 (lv_at hl 1 rfl) ?_
  refine lv_if_ne (tgt := 1548) hx hb dL_law_1533 (by decide) (fun q9 => ?_) (fun q9 => ?_)
  · refine lv_goto (tgt := 2002) hx hb dL_law_1548 (by decide) ?_
    exact k _ _ ⟨S, R, Y9, G, Z, N, T, M9, hs, f9, hI, hP, hD⟩ hS ls (lv_sub hl [2, 3, 4, 5, 6] rfl)
  · refine lv_aload_n hx hb dL_law_1536 rfl (lv_at hl 5 rfl) ?_
    refine lv_iconst (v := (0 : Int32)) hx hb dL_law_1537 (by decide) ?_
    refine va_lald hx hb hK hP 109 3 rfl rfl (by unfold vp_in; decide) dL_law_1538 ?_
    refine lv_iload hx hb dL_law_1539 (lv_at hl 0 rfl) ?_
    refine lv_i2l (v := b0.toInt64) hx hb dL_law_1541 rfl ?_
    rw [show f9 (0 : Int32).toNatClampNeg = b0.toInt64 from hcm.2 q9]
    refine W.lcmp hx hb dL_law_1542 ?_
    rw [lg_cmp_self]
    refine lv_if_eq (tgt := 1548) hx hb dL_law_1543 (by decide) (fun _ => ?_) (fun q => absurd rfl q)
    refine lv_goto (tgt := 2002) hx hb dL_law_1548 (by decide) ?_
    exact k _ _ ⟨S, R, Y9, G, Z, N, T, M9, hs, f9, hI, hP, hD⟩ hS ls (lv_sub hl [2, 3, 4, 5, 6] rfl)
set_option maxHeartbeats 4000000 in
set_option maxRecDepth 100000 in
theorem law_c_setting {p : Program} {e : Env} {s : State} {m : MethodId} {below : List Frame} {meth : Method} {c : Code} {Q : State → Prop} (l : Launch) (hfl : l.stackTraces = false) {dC : Nat → ClassId} {dI : Nat → Nat → Nat} {cI cZ cS cJ : ClassId} {b L : Nat} {xs : Nat → Int32} {aF aN aT aL aO aH : Nat → Nat} {ah : Nat → Nat → Nat} {aP aX aM : Nat → Nat} {ao : Nat} (C : LC dC dI cI cZ cS cJ p s m c b L xs) {i : Nat} (hi : i + 5 ≤ L) {cells slots : Nat} (hc : cells + 1 ≤ 601024) (hsl : slots + 6 ≤ 7293034) {H : Heap} {locs : List Loc} (I : LI dC dI cI cZ cS cJ aF aN aT aL aO aH ah aP aX aM ao s H) (hS : va_S (fun q : Nat => s.heap.size ≤ q) s.heap H locs) {ls : Array Slot} (hl : lv_has ls 9 [(0, .ref b), (1, .ref (aF 0)), (2, .ref (aM 0)), (3, .ref ao), (4, .int (nI i))])
    (k : ∀ (H : Heap) (locs : List Loc), LI dC dI cI cZ cS cJ aF aN aT aL aO aH ah aP aX aM ao s H → va_S (fun q : Nat => s.heap.size ≤ q) s.heap H locs → ∀ ls : Array Slot, lv_has ls 9 [(0, .ref b), (1, .ref (aF 0)), (2, .ref (aM 0)), (3, .ref ao), (4, .int (nI i))] → W p l e room_1 s m #[Value.ref b] below meth c H locs (cells + 1) (slots + 6) Q (F0 m 2002 ls [])) : W p l e room_1 s m #[Value.ref b] below meth c H locs cells slots Q (F0 m 1551 ls []) := by
  obtain ⟨hx, hb, hml, hown, hts, hK, hN, hXW, hNC, hX, hbl, hL⟩ := C
  obtain ⟨S, R, Y, G, Z, N, T, M, hs, f, hI, hP, hD⟩ := I
  have hA : ∀ q : Nat, s.heap.size ≤ q → (fun q : Nat => s.heap.size ≤ q) q := fun _ h => h
  have hK3 := hK.sub (tys' := tyS cI cZ cS) [0, 1, 2] rfl
  obtain ⟨c0, r0, b0, M9, e6, e7, hI, hAn⟩ := st_setting hI (xs (i + 1))
  refine lv_aload_n hx hb dL_law_1551 rfl (lv_at hl 1 rfl) ?_
  refine law_rd (k := 1) hx hb hX hbl hS hi hL (by decide) (by decide) (lv_at hl 0 rfl) (lv_at hl 4 rfl) dL_law_1552 dL_law_1553 dL_law_1555 dL_law_1556 dL_law_1557 ?_
  refine lv_aload_n hx hb dL_law_1558 rfl (lv_at hl 3 rfl) ?_
  have hF := va_free (wc := (wFm aF aN aT aL aO aH aP aX ++ (wSt cI aN S)) ++ wOt cJ ao f) hD hS hA [0, 1, 2, 3, 4, 5, 6, 7, 8, 9, 10, 11, 109] rfl
  refine va_calli (vx_runSW (As := [.ref (aF 0), .int (xs (i + 1)), .ref ao]) (rest := []) ⟨hx, hb, hml, hown, hts⟩ (met_L_setting l hfl dC dI cI cZ cS cJ aF aN aT aL aO aH ah aP aX ao f S s.heap.size H.size (xs (i + 1)) (c0, r0) e6 (fun c r q => by obtain ⟨u, -, hu⟩ := q; cases hu; exact an_ks hAn)) (vx_cwSW 3 hts gL_law_L_setting rfl rfl rfl (by decide +kernel) ⟨(Nat.le_of_ble_eq_true rfl), (Nat.le_of_ble_eq_true rfl)⟩) (pLS (wc := (wFm aF aN aT aL aO aH aP aX ++ (wSt cI aN S)) ++ wOt cJ ao f) hK hP hD hN hXW hNC hS [0, 1, 2, 3, 4, 5, 6, 7, 8, 9, 10, 11, 109] rfl (by decide)) rfl rfl hl.1 rfl (lv_room (Nat.le_of_ble_eq_true rfl)) dL_law_1559 ⟨hc, hsl⟩) hS (fun q _ h => hF q h) hF (fun k9 u t H1 locs ht hvm hw hB hz1 hk1 hS => ?_)
  obtain ⟨u1, f9⟩ := u
  obtain ⟨c1, r1, hcr, hwr⟩ := hw
  try dsimp only at hcr hwr
  cases hcr
  have hcm := an_wrp (by decide) (by decide) (by decide) hwr hAn
  rw [ht] at hB
  have hB : va_P (dC, dI) vwCl ((wFm aF aN aT aL aO aH aP aX ++ (wSt cI aN S)) ++ wOt cJ ao f9) H1 := hB
  have hP := wrk2 (w2 := wFm aF aN aT aL aO aH aP aX ++ (wSt cI aN S ++ (wSt cI aT R ++ (wLo cI aL Y ++ (wOu aO aN aL ++ (wHi cS aH ah G ++ (wZs cI ah Z ++ (wSn cI cZ aP N ++ (wTx cI aX T ++ (wMo cI aM M hs ++ (wOt cJ ao f9))))))))))) (wr := wSt cI aT R ++ (wLo cI aL Y ++ (wOu aO aN aL ++ (wHi cS aH ah G ++ (wZs cI ah Z ++ (wSn cI cZ aP N ++ (wTx cI aX T ++ (wMo cI aM M hs)))))))) hP hD [0, 1, 2, 3, 4, 5, 6, 7, 8, 9, 10, 11, 109] [12, 13, 14, 15, 16, 17, 18, 19, 20, 21, 22, 23, 24, 25, 26, 27, 28, 29, 30, 31, 32, 33, 34, 35, 36, 37, 38, 39, 40, 41, 42, 43, 44, 45, 46, 47, 48, 49, 50, 51, 52, 53, 54, 55, 56, 57, 58, 59, 60, 61, 62, 63, 64, 65, 66, 67, 68, 69, 70, 71, 72, 73, 74, 75, 76, 77, 78, 79, 80, 81, 82, 83, 84, 85, 86, 87, 88, 89, 90, 91, 92, 93, 94, 95, 96, 97, 98, 99, 100, 101, 102, 103, 104, 105, 106, 107, 108] rfl rfl (by decide) hk1 hB [97, 98, 99, 100, 101, 102, 103, 104, 105, 106, 107, 108, 0, 1, 2, 3, 4, 5, 6, 7, 8, 9, 10, 11, 12, 13, 14, 15, 16, 17, 18, 19, 20, 21, 22, 23, 24, 25, 26, 27, 28, 29, 30, 31, 32, 33, 34, 35, 36, 37, 38, 39, 40, 41, 42, 43, 44, 45, 46, 47, 48, 49, 50, 51, 52, 53, 54, 55, 56, 57, 58, 59, 60, 61, 62, 63, 64, 65, 66, 67, 68, 69, 70, 71, 72, 73, 74, 75, 76, 77, 78, 79, 80, 81, 82, 83, 84, 85, 86, 87, 88, 89, 90, 91, 92, 93, 94, 95, 96, 109] rfl
  have hD := D_addr (w1 := wFm aF aN aT aL aO aH aP aX ++ (wSt cI aN S ++ (wSt cI aT R ++ (wLo cI aL Y ++ (wOu aO aN aL ++ (wHi cS aH ah G ++ (wZs cI ah Z ++ (wSn cI cZ aP N ++ (wTx cI aX T ++ (wMo cI aM M hs ++ (wOt cJ ao f9))))))))))) hD rfl
  refine lv_istore (lv' := [(5, .int k9), (0, .ref b), (1, .ref (aF 0)), (2, .ref (aM 0)), (3, .ref ao), (4, .int (nI i))]) hx hb dL_law_1562 hl (by decide) rfl (fun ls hl => ?_)
  refine lv_aload_n hx hb dL_law_1564 rfl (lv_at hl 3 rfl) ?_
  refine law_rd (k := 1) hx hb hX hbl hS hi hL (by decide) (by decide) (lv_at hl 1 rfl) (lv_at hl 5 rfl) dL_law_1565 dL_law_1566 dL_law_1568 dL_law_1569 dL_law_1570 ?_
  have hF := va_free (wc := wMo cI aM M hs) hD hS hA [100, 101, 102, 103, 104, 105, 106, 107, 108] rfl
  refine va_calli (va_runV (As := [.int (xs (i + 1))]) (rest := []) ⟨hx, hb, hml, hown, hts⟩ (met_X7_setting l dC dI cI cZ cS aM M hs H1.size (xs (i + 1)) _ e7) (cwV 1 hts gL_law_X7_setting rfl rfl rfl (by decide +kernel) ⟨(Nat.le_of_ble_eq_true rfl), (Nat.le_of_ble_eq_true rfl)⟩) (pV (wc := wMo cI aM M hs) (ci := 7) (q0 := 100) hK3 hP hD hN [100, 101, 102, 103, 104, 105, 106, 107, 108] rfl (by decide) rfl rfl) rfl rfl hl.1 rfl (lv_room (Nat.le_of_ble_eq_true rfl)) dL_law_1571 ⟨hc, hsl⟩) hS (fun q _ h => hF q h) hF (fun b9 u t H2 locs ht hvm hw hB hz1 hk1 hS => ?_)
  try dsimp only at hw hB
  cases hw
  rw [ht] at hB
  have hP := wrk2 (w2 := wFm aF aN aT aL aO aH aP aX ++ (wSt cI aN S ++ (wSt cI aT R ++ (wLo cI aL Y ++ (wOu aO aN aL ++ (wHi cS aH ah G ++ (wZs cI ah Z ++ (wSn cI cZ aP N ++ (wTx cI aX T ++ (wMo cI aM M9 hs ++ (wOt cJ ao f9))))))))))) (wr := wFm aF aN aT aL aO aH aP aX ++ (wSt cI aN S ++ (wSt cI aT R ++ (wLo cI aL Y ++ (wOu aO aN aL ++ (wHi cS aH ah G ++ (wZs cI ah Z ++ (wSn cI cZ aP N ++ (wTx cI aX T ++ (wOt cJ ao f9)))))))))) hP hD [100, 101, 102, 103, 104, 105, 106, 107, 108] [0, 1, 2, 3, 4, 5, 6, 7, 8, 9, 10, 11, 12, 13, 14, 15, 16, 17, 18, 19, 20, 21, 22, 23, 24, 25, 26, 27, 28, 29, 30, 31, 32, 33, 34, 35, 36, 37, 38, 39, 40, 41, 42, 43, 44, 45, 46, 47, 48, 49, 50, 51, 52, 53, 54, 55, 56, 57, 58, 59, 60, 61, 62, 63, 64, 65, 66, 67, 68, 69, 70, 71, 72, 73, 74, 75, 76, 77, 78, 79, 80, 81, 82, 83, 84, 85, 86, 87, 88, 89, 90, 91, 92, 93, 94, 95, 96, 97, 98, 99, 109] rfl rfl (by decide) hk1 hB [0, 1, 2, 3, 4, 5, 6, 7, 8, 9, 10, 11, 12, 13, 14, 15, 16, 17, 18, 19, 20, 21, 22, 23, 24, 25, 26, 27, 28, 29, 30, 31, 32, 33, 34, 35, 36, 37, 38, 39, 40, 41, 42, 43, 44, 45, 46, 47, 48, 49, 50, 51, 52, 53, 54, 55, 56, 57, 58, 59, 60, 61, 62, 63, 64, 65, 66, 67, 68, 69, 70, 71, 72, 73, 74, 75, 76, 77, 78, 79, 80, 81, 82, 83, 84, 85, 86, 87, 88, 89, 90, 91, 92, 93, 94, 95, 96, 97, 98, 99, 101, 102, 103, 104, 105, 106, 107, 108, 109, 100] rfl
  have hD := D_addr (w1 := wFm aF aN aT aL aO aH aP aX ++ (wSt cI aN S ++ (wSt cI aT R ++ (wLo cI aL Y ++ (wOu aO aN aL ++ (wHi cS aH ah G ++ (wZs cI ah Z ++ (wSn cI cZ aP N ++ (wTx cI aX T ++ (wMo cI aM M9 hs ++ (wOt cJ ao f9))))))))))) hD rfl
  refine lv_istore (lv' := [(6, .int b0), (5, .int k9), (0, .ref b), (1, .ref (aF 0)), (2, .ref (aM 0)), (3, .ref ao), (4, .int (nI i))]) hx hb dL_law_1574 hl (by decide) rfl (fun ls hl => ?_)
  refine lv_aload_n hx hb dL_law_1576 rfl (lv_at hl 4 rfl) ?_
  refine va_calli (va_runV (As := []) (rest := []) ⟨hx, hb, hml, hown, hts⟩ (met_X7_thrown l dC dI cI cZ cS aM M9 hs H2.size) (cwV 0 hts gL_law_X7_thrown rfl rfl rfl (by decide +kernel) ⟨(Nat.le_of_ble_eq_true rfl), (Nat.le_of_ble_eq_true rfl)⟩) (pV (wc := wMo cI aM M9 hs) (ci := 7) (q0 := 100) hK3 hP hD hN [100, 101, 102, 103, 104, 105, 106, 107, 108] rfl (by decide) rfl rfl) rfl rfl hl.1 rfl (lv_room (Nat.le_of_ble_eq_true rfl)) dL_law_1577 ⟨hc, hsl⟩) hS (fun q _ h => a0_in hS hA q h) (a0_in hS hA) (fun r9 u t H3 locs ht hvm hw hB hz1 hk1 hS => ?_)
  clear hB
  have hP := rdk hP hk1
  have hw : r9 = M9 7 0 := hw
  subst hw
  refine lv_iload hx hb dL_law_1580 (lv_at hl 1 rfl) ?_
  refine lv_icmp_eq (tgt := 1587) hx hb dL_law_1582 (by decide) (fun _ => ?_) (fun q => absurd hcm.1.symm q)
  refine lv_iload hx hb dL_law_1587 (lv_at hl 1 rfl) ?_
  refine lv_if_ne (tgt := 1604) hx hb dL_law_1589 (by decide) (fun q9 => ?_) (fun q9 => ?_)
  · refine lv_goto (tgt := 2002) hx hb dL_law_1604 (by decide) ?_
    exact k _ _ ⟨S, R, Y, G, Z, N, T, M9, hs, f9, hI, hP, hD⟩ hS ls (lv_sub hl [2, 3, 4, 5, 6] rfl)
  · refine lv_aload_n hx hb dL_law_1592 rfl (lv_at hl 5 rfl) ?_
    refine lv_iconst (v := (0 : Int32)) hx hb dL_law_1593 (by decide) ?_
    refine va_lald hx hb hK hP 109 3 rfl rfl (by unfold vp_in; decide) dL_law_1594 ?_
    refine lv_iload hx hb dL_law_1595 (lv_at hl 0 rfl) ?_
    refine lv_i2l (v := b0.toInt64) hx hb dL_law_1597 rfl ?_
    rw [show f9 (0 : Int32).toNatClampNeg = b0.toInt64 from hcm.2 q9]
    refine W.lcmp hx hb dL_law_1598 ?_
    rw [lg_cmp_self]
    refine lv_if_eq (tgt := 1604) hx hb dL_law_1599 (by decide) (fun _ => ?_) (fun q => absurd rfl q)
    refine lv_goto (tgt := 2002) hx hb dL_law_1604 (by decide) ?_
    exact k _ _ ⟨S, R, Y, G, Z, N, T, M9, hs, f9, hI, hP, hD⟩ hS ls (lv_sub hl [2, 3, 4, 5, 6] rfl)
set_option maxHeartbeats 4000000 in
set_option maxRecDepth 100000 in
theorem law_c_whyNot {p : Program} {e : Env} {s : State} {m : MethodId} {below : List Frame} {meth : Method} {c : Code} {Q : State → Prop} (l : Launch) (hfl : l.stackTraces = false) {dC : Nat → ClassId} {dI : Nat → Nat → Nat} {cI cZ cS cJ : ClassId} {b L : Nat} {xs : Nat → Int32} {aF aN aT aL aO aH : Nat → Nat} {ah : Nat → Nat → Nat} {aP aX aM : Nat → Nat} {ao : Nat} (C : LC dC dI cI cZ cS cJ p s m c b L xs) {i : Nat} (hi : i + 5 ≤ L) {cells slots : Nat} (hc : cells + 1 ≤ 601024) (hsl : slots + 6 ≤ 7293034) {H : Heap} {locs : List Loc} (I : LI dC dI cI cZ cS cJ aF aN aT aL aO aH ah aP aX aM ao s H) (hS : va_S (fun q : Nat => s.heap.size ≤ q) s.heap H locs) {ls : Array Slot} (hl : lv_has ls 9 [(0, .ref b), (1, .ref (aF 0)), (2, .ref (aM 0)), (3, .ref ao), (4, .int (nI i))])
    (k : ∀ (H : Heap) (locs : List Loc), LI dC dI cI cZ cS cJ aF aN aT aL aO aH ah aP aX aM ao s H → va_S (fun q : Nat => s.heap.size ≤ q) s.heap H locs → ∀ ls : Array Slot, lv_has ls 9 [(0, .ref b), (1, .ref (aF 0)), (2, .ref (aM 0)), (3, .ref ao), (4, .int (nI i))] → W p l e room_1 s m #[Value.ref b] below meth c H locs (cells + 1) (slots + 6) Q (F0 m 2002 ls [])) : W p l e room_1 s m #[Value.ref b] below meth c H locs cells slots Q (F0 m 1607 ls []) := by
  obtain ⟨hx, hb, hml, hown, hts, hK, hN, hXW, hNC, hX, hbl, hL⟩ := C
  obtain ⟨S, R, Y, G, Z, N, T, M, hs, f, hI, hP, hD⟩ := I
  have hA : ∀ q : Nat, s.heap.size ≤ q → (fun q : Nat => s.heap.size ≤ q) q := fun _ h => h
  have hK3 := hK.sub (tys' := tyS cI cZ cS) [0, 1, 2] rfl
  obtain ⟨c0, r0, Y9, b0, M9, e6, e7, hI, hAn⟩ := st_whyNot hI Y (xs (i + 1)) (xs (i + 2)) (xs (i + 3))
  refine lv_aload_n hx hb dL_law_1607 rfl (lv_at hl 1 rfl) ?_
  refine law_rd (k := 1) hx hb hX hbl hS hi hL (by decide) (by decide) (lv_at hl 0 rfl) (lv_at hl 4 rfl) dL_law_1608 dL_law_1609 dL_law_1611 dL_law_1612 dL_law_1613 ?_
  refine law_rd (k := 2) hx hb hX hbl hS hi hL (by decide) (by decide) (lv_at hl 0 rfl) (lv_at hl 4 rfl) dL_law_1614 dL_law_1615 dL_law_1617 dL_law_1618 dL_law_1619 ?_
  refine law_rd (k := 3) hx hb hX hbl hS hi hL (by decide) (by decide) (lv_at hl 0 rfl) (lv_at hl 4 rfl) dL_law_1620 dL_law_1621 dL_law_1623 dL_law_1624 dL_law_1625 ?_
  refine lv_aload_n hx hb dL_law_1626 rfl (lv_at hl 3 rfl) ?_
  have hF := va_free (wc := (wFm aF aN aT aL aO aH aP aX ++ (wSt cI aN S ++ (wLo cI aL Y ++ (wOu aO aN aL)))) ++ wOt cJ ao f) hD hS hA [0, 1, 2, 3, 4, 5, 6, 7, 8, 9, 10, 11, 23, 24, 25, 26, 109] rfl
  refine va_calli (vx_runSW (As := [.ref (aF 0), .int (xs (i + 1)), .int (xs (i + 2)), .int (xs (i + 3)), .ref ao]) (rest := []) ⟨hx, hb, hml, hown, hts⟩ (met_L_whyNot l hfl dC dI cI cZ cS cJ aF aN aT aL aO aH ah aP aX ao f S Y s.heap.size H.size (xs (i + 1)) (xs (i + 2)) (xs (i + 3)) (c0, r0, S, Y9) e6 (fun c r q => by obtain ⟨u, hu⟩ := q; cases hu; exact an_ks hAn)) (vx_cwSW 5 hts gL_law_L_whyNot rfl rfl rfl (by decide +kernel) ⟨(Nat.le_of_ble_eq_true rfl), (Nat.le_of_ble_eq_true rfl)⟩) (pLS (wc := (wFm aF aN aT aL aO aH aP aX ++ (wSt cI aN S ++ (wLo cI aL Y ++ (wOu aO aN aL)))) ++ wOt cJ ao f) hK hP hD hN hXW hNC hS [0, 1, 2, 3, 4, 5, 6, 7, 8, 9, 10, 11, 23, 24, 25, 26, 109] rfl (by decide)) rfl rfl hl.1 rfl (lv_room (Nat.le_of_ble_eq_true rfl)) dL_law_1627 ⟨hc, hsl⟩) hS (fun q _ h => hF q h) hF (fun k9 u t H1 locs ht hvm hw hB hz1 hk1 hS => ?_)
  obtain ⟨u1, f9⟩ := u
  obtain ⟨c1, r1, hcr, hwr⟩ := hw
  try dsimp only at hcr hwr
  cases hcr
  have hcm := an_wrp (by decide) (by decide) (by decide) hwr hAn
  rw [ht] at hB
  have hB : va_P (dC, dI) vwCl ((wFm aF aN aT aL aO aH aP aX ++ (wSt cI aN S ++ (wLo cI aL Y9 ++ (wOu aO aN aL)))) ++ wOt cJ ao f9) H1 := hB
  have hP := wrk2 (w2 := wFm aF aN aT aL aO aH aP aX ++ (wSt cI aN S ++ (wSt cI aT R ++ (wLo cI aL Y9 ++ (wOu aO aN aL ++ (wHi cS aH ah G ++ (wZs cI ah Z ++ (wSn cI cZ aP N ++ (wTx cI aX T ++ (wMo cI aM M hs ++ (wOt cJ ao f9))))))))))) (wr := wSt cI aT R ++ (wHi cS aH ah G ++ (wZs cI ah Z ++ (wSn cI cZ aP N ++ (wTx cI aX T ++ (wMo cI aM M hs)))))) hP hD [0, 1, 2, 3, 4, 5, 6, 7, 8, 9, 10, 11, 23, 24, 25, 26, 109] [12, 13, 14, 15, 16, 17, 18, 19, 20, 21, 22, 27, 28, 29, 30, 31, 32, 33, 34, 35, 36, 37, 38, 39, 40, 41, 42, 43, 44, 45, 46, 47, 48, 49, 50, 51, 52, 53, 54, 55, 56, 57, 58, 59, 60, 61, 62, 63, 64, 65, 66, 67, 68, 69, 70, 71, 72, 73, 74, 75, 76, 77, 78, 79, 80, 81, 82, 83, 84, 85, 86, 87, 88, 89, 90, 91, 92, 93, 94, 95, 96, 97, 98, 99, 100, 101, 102, 103, 104, 105, 106, 107, 108] rfl rfl (by decide) hk1 hB [93, 94, 95, 96, 97, 98, 99, 100, 101, 102, 103, 104, 0, 1, 2, 3, 4, 5, 6, 7, 8, 9, 10, 105, 106, 107, 108, 11, 12, 13, 14, 15, 16, 17, 18, 19, 20, 21, 22, 23, 24, 25, 26, 27, 28, 29, 30, 31, 32, 33, 34, 35, 36, 37, 38, 39, 40, 41, 42, 43, 44, 45, 46, 47, 48, 49, 50, 51, 52, 53, 54, 55, 56, 57, 58, 59, 60, 61, 62, 63, 64, 65, 66, 67, 68, 69, 70, 71, 72, 73, 74, 75, 76, 77, 78, 79, 80, 81, 82, 83, 84, 85, 86, 87, 88, 89, 90, 91, 92, 109] rfl
  have hD := D_addr (w1 := wFm aF aN aT aL aO aH aP aX ++ (wSt cI aN S ++ (wSt cI aT R ++ (wLo cI aL Y9 ++ (wOu aO aN aL ++ (wHi cS aH ah G ++ (wZs cI ah Z ++ (wSn cI cZ aP N ++ (wTx cI aX T ++ (wMo cI aM M hs ++ (wOt cJ ao f9))))))))))) hD rfl
  refine lv_istore (lv' := [(5, .int k9), (0, .ref b), (1, .ref (aF 0)), (2, .ref (aM 0)), (3, .ref ao), (4, .int (nI i))]) hx hb dL_law_1630 hl (by decide) rfl (fun ls hl => ?_)
  refine lv_aload_n hx hb dL_law_1632 rfl (lv_at hl 3 rfl) ?_
  refine law_rd (k := 1) hx hb hX hbl hS hi hL (by decide) (by decide) (lv_at hl 1 rfl) (lv_at hl 5 rfl) dL_law_1633 dL_law_1634 dL_law_1636 dL_law_1637 dL_law_1638 ?_
  refine law_rd (k := 2) hx hb hX hbl hS hi hL (by decide) (by decide) (lv_at hl 1 rfl) (lv_at hl 5 rfl) dL_law_1639 dL_law_1640 dL_law_1642 dL_law_1643 dL_law_1644 ?_
  refine law_rd (k := 3) hx hb hX hbl hS hi hL (by decide) (by decide) (lv_at hl 1 rfl) (lv_at hl 5 rfl) dL_law_1645 dL_law_1646 dL_law_1648 dL_law_1649 dL_law_1650 ?_
  have hF := va_free (wc := wMo cI aM M hs) hD hS hA [100, 101, 102, 103, 104, 105, 106, 107, 108] rfl
  refine va_calli (va_runV (As := [.int (xs (i + 1)), .int (xs (i + 2)), .int (xs (i + 3))]) (rest := []) ⟨hx, hb, hml, hown, hts⟩ (met_X7_whyNot l dC dI cI cZ cS aM M hs H1.size (xs (i + 1)) (xs (i + 2)) (xs (i + 3)) _ e7) (cwV 3 hts gL_law_X7_whyNot rfl rfl rfl (by decide +kernel) ⟨(Nat.le_of_ble_eq_true rfl), (Nat.le_of_ble_eq_true rfl)⟩) (pV (wc := wMo cI aM M hs) (ci := 7) (q0 := 100) hK3 hP hD hN [100, 101, 102, 103, 104, 105, 106, 107, 108] rfl (by decide) rfl rfl) rfl rfl hl.1 rfl (lv_room (Nat.le_of_ble_eq_true rfl)) dL_law_1651 ⟨hc, hsl⟩) hS (fun q _ h => hF q h) hF (fun b9 u t H2 locs ht hvm hw hB hz1 hk1 hS => ?_)
  try dsimp only at hw hB
  cases hw
  rw [ht] at hB
  have hP := wrk2 (w2 := wFm aF aN aT aL aO aH aP aX ++ (wSt cI aN S ++ (wSt cI aT R ++ (wLo cI aL Y9 ++ (wOu aO aN aL ++ (wHi cS aH ah G ++ (wZs cI ah Z ++ (wSn cI cZ aP N ++ (wTx cI aX T ++ (wMo cI aM M9 hs ++ (wOt cJ ao f9))))))))))) (wr := wFm aF aN aT aL aO aH aP aX ++ (wSt cI aN S ++ (wSt cI aT R ++ (wLo cI aL Y9 ++ (wOu aO aN aL ++ (wHi cS aH ah G ++ (wZs cI ah Z ++ (wSn cI cZ aP N ++ (wTx cI aX T ++ (wOt cJ ao f9)))))))))) hP hD [100, 101, 102, 103, 104, 105, 106, 107, 108] [0, 1, 2, 3, 4, 5, 6, 7, 8, 9, 10, 11, 12, 13, 14, 15, 16, 17, 18, 19, 20, 21, 22, 23, 24, 25, 26, 27, 28, 29, 30, 31, 32, 33, 34, 35, 36, 37, 38, 39, 40, 41, 42, 43, 44, 45, 46, 47, 48, 49, 50, 51, 52, 53, 54, 55, 56, 57, 58, 59, 60, 61, 62, 63, 64, 65, 66, 67, 68, 69, 70, 71, 72, 73, 74, 75, 76, 77, 78, 79, 80, 81, 82, 83, 84, 85, 86, 87, 88, 89, 90, 91, 92, 93, 94, 95, 96, 97, 98, 99, 109] rfl rfl (by decide) hk1 hB [0, 1, 2, 3, 4, 5, 6, 7, 8, 9, 10, 11, 12, 13, 14, 15, 16, 17, 18, 19, 20, 21, 22, 23, 24, 25, 26, 27, 28, 29, 30, 31, 32, 33, 34, 35, 36, 37, 38, 39, 40, 41, 42, 43, 44, 45, 46, 47, 48, 49, 50, 51, 52, 53, 54, 55, 56, 57, 58, 59, 60, 61, 62, 63, 64, 65, 66, 67, 68, 69, 70, 71, 72, 73, 74, 75, 76, 77, 78, 79, 80, 81, 82, 83, 84, 85, 86, 87, 88, 89, 90, 91, 92, 93, 94, 95, 96, 97, 98, 99, 101, 102, 103, 104, 105, 106, 107, 108, 109, 100] rfl
  have hD := D_addr (w1 := wFm aF aN aT aL aO aH aP aX ++ (wSt cI aN S ++ (wSt cI aT R ++ (wLo cI aL Y9 ++ (wOu aO aN aL ++ (wHi cS aH ah G ++ (wZs cI ah Z ++ (wSn cI cZ aP N ++ (wTx cI aX T ++ (wMo cI aM M9 hs ++ (wOt cJ ao f9))))))))))) hD rfl
  refine lv_istore (lv' := [(6, .int b0), (5, .int k9), (0, .ref b), (1, .ref (aF 0)), (2, .ref (aM 0)), (3, .ref ao), (4, .int (nI i))]) hx hb dL_law_1654 hl (by decide) rfl (fun ls hl => ?_)
  refine lv_aload_n hx hb dL_law_1656 rfl (lv_at hl 4 rfl) ?_
  refine va_calli (va_runV (As := []) (rest := []) ⟨hx, hb, hml, hown, hts⟩ (met_X7_thrown l dC dI cI cZ cS aM M9 hs H2.size) (cwV 0 hts gL_law_X7_thrown rfl rfl rfl (by decide +kernel) ⟨(Nat.le_of_ble_eq_true rfl), (Nat.le_of_ble_eq_true rfl)⟩) (pV (wc := wMo cI aM M9 hs) (ci := 7) (q0 := 100) hK3 hP hD hN [100, 101, 102, 103, 104, 105, 106, 107, 108] rfl (by decide) rfl rfl) rfl rfl hl.1 rfl (lv_room (Nat.le_of_ble_eq_true rfl)) dL_law_1657 ⟨hc, hsl⟩) hS (fun q _ h => a0_in hS hA q h) (a0_in hS hA) (fun r9 u t H3 locs ht hvm hw hB hz1 hk1 hS => ?_)
  clear hB
  have hP := rdk hP hk1
  have hw : r9 = M9 7 0 := hw
  subst hw
  refine lv_iload hx hb dL_law_1660 (lv_at hl 1 rfl) ?_
  refine lv_icmp_eq (tgt := 1667) hx hb dL_law_1662 (by decide) (fun _ => ?_) (fun q => absurd hcm.1.symm q)
  refine lv_iload hx hb dL_law_1667 (lv_at hl 1 rfl) ?_
  refine lv_if_ne (tgt := 1684) hx hb dL_law_1669 (by decide) (fun q9 => ?_) (fun q9 => ?_)
  · refine lv_goto (tgt := 2002) hx hb dL_law_1684 (by decide) ?_
    exact k _ _ ⟨S, R, Y9, G, Z, N, T, M9, hs, f9, hI, hP, hD⟩ hS ls (lv_sub hl [2, 3, 4, 5, 6] rfl)
  · refine lv_aload_n hx hb dL_law_1672 rfl (lv_at hl 5 rfl) ?_
    refine lv_iconst (v := (0 : Int32)) hx hb dL_law_1673 (by decide) ?_
    refine va_lald hx hb hK hP 109 3 rfl rfl (by unfold vp_in; decide) dL_law_1674 ?_
    refine lv_iload hx hb dL_law_1675 (lv_at hl 0 rfl) ?_
    refine lv_i2l (v := b0.toInt64) hx hb dL_law_1677 rfl ?_
    rw [show f9 (0 : Int32).toNatClampNeg = b0.toInt64 from hcm.2 q9]
    refine W.lcmp hx hb dL_law_1678 ?_
    rw [lg_cmp_self]
    refine lv_if_eq (tgt := 1684) hx hb dL_law_1679 (by decide) (fun _ => ?_) (fun q => absurd rfl q)
    refine lv_goto (tgt := 2002) hx hb dL_law_1684 (by decide) ?_
    exact k _ _ ⟨S, R, Y9, G, Z, N, T, M9, hs, f9, hI, hP, hD⟩ hS ls (lv_sub hl [2, 3, 4, 5, 6] rfl)
set_option maxHeartbeats 4000000 in
set_option maxRecDepth 100000 in
theorem law_c_joyOn {p : Program} {e : Env} {s : State} {m : MethodId} {below : List Frame} {meth : Method} {c : Code} {Q : State → Prop} (l : Launch) (hfl : l.stackTraces = false) {dC : Nat → ClassId} {dI : Nat → Nat → Nat} {cI cZ cS cJ : ClassId} {b L : Nat} {xs : Nat → Int32} {aF aN aT aL aO aH : Nat → Nat} {ah : Nat → Nat → Nat} {aP aX aM : Nat → Nat} {ao : Nat} (C : LC dC dI cI cZ cS cJ p s m c b L xs) {i : Nat} (hi : i + 5 ≤ L) {cells slots : Nat} (hc : cells + 1 ≤ 601024) (hsl : slots + 6 ≤ 7293034) {H : Heap} {locs : List Loc} (I : LI dC dI cI cZ cS cJ aF aN aT aL aO aH ah aP aX aM ao s H) (hS : va_S (fun q : Nat => s.heap.size ≤ q) s.heap H locs) {ls : Array Slot} (hl : lv_has ls 9 [(0, .ref b), (1, .ref (aF 0)), (2, .ref (aM 0)), (3, .ref ao), (4, .int (nI i))])
    (k : ∀ (H : Heap) (locs : List Loc), LI dC dI cI cZ cS cJ aF aN aT aL aO aH ah aP aX aM ao s H → va_S (fun q : Nat => s.heap.size ≤ q) s.heap H locs → ∀ ls : Array Slot, lv_has ls 9 [(0, .ref b), (1, .ref (aF 0)), (2, .ref (aM 0)), (3, .ref ao), (4, .int (nI i))] → W p l e room_1 s m #[Value.ref b] below meth c H locs (cells + 1) (slots + 6) Q (F0 m 2002 ls [])) : W p l e room_1 s m #[Value.ref b] below meth c H locs cells slots Q (F0 m 1687 ls []) := by
  obtain ⟨hx, hb, hml, hown, hts, hK, hN, hXW, hNC, hX, hbl, hL⟩ := C
  obtain ⟨S, R, Y, G, Z, N, T, M, hs, f, hI, hP, hD⟩ := I
  have hA : ∀ q : Nat, s.heap.size ≤ q → (fun q : Nat => s.heap.size ≤ q) q := fun _ h => h
  have hK3 := hK.sub (tys' := tyS cI cZ cS) [0, 1, 2] rfl
  obtain ⟨c0, r0, b0, M9, e6, e7, hI, hAn⟩ := st_joyOn hI (xs (i + 1)) (xs (i + 2))
  refine lv_aload_n hx hb dL_law_1687 rfl (lv_at hl 1 rfl) ?_
  refine law_rd (k := 1) hx hb hX hbl hS hi hL (by decide) (by decide) (lv_at hl 0 rfl) (lv_at hl 4 rfl) dL_law_1688 dL_law_1689 dL_law_1691 dL_law_1692 dL_law_1693 ?_
  refine law_rd (k := 2) hx hb hX hbl hS hi hL (by decide) (by decide) (lv_at hl 0 rfl) (lv_at hl 4 rfl) dL_law_1694 dL_law_1695 dL_law_1697 dL_law_1698 dL_law_1699 ?_
  refine lv_aload_n hx hb dL_law_1700 rfl (lv_at hl 3 rfl) ?_
  have hF := va_free (wc := (wFm aF aN aT aL aO aH aP aX ++ (wSt cI aN S ++ (wLo cI aL Y ++ (wOu aO aN aL)))) ++ wOt cJ ao f) hD hS hA [0, 1, 2, 3, 4, 5, 6, 7, 8, 9, 10, 11, 23, 24, 25, 26, 109] rfl
  refine va_calli (vx_runSW (As := [.ref (aF 0), .int (xs (i + 1)), .int (xs (i + 2)), .ref ao]) (rest := []) ⟨hx, hb, hml, hown, hts⟩ (met_L_joyOn l hfl dC dI cI cZ cS cJ aF aN aT aL aO aH ah aP aX ao f S Y s.heap.size H.size (xs (i + 1)) (xs (i + 2)) (c0, r0) e6 (fun c r q => by obtain ⟨u, -, hu⟩ := q; cases hu; exact an_ks hAn)) (vx_cwSW 4 hts gL_law_L_joyOn rfl rfl rfl (by decide +kernel) ⟨(Nat.le_of_ble_eq_true rfl), (Nat.le_of_ble_eq_true rfl)⟩) (pLS (wc := (wFm aF aN aT aL aO aH aP aX ++ (wSt cI aN S ++ (wLo cI aL Y ++ (wOu aO aN aL)))) ++ wOt cJ ao f) hK hP hD hN hXW hNC hS [0, 1, 2, 3, 4, 5, 6, 7, 8, 9, 10, 11, 23, 24, 25, 26, 109] rfl (by decide)) rfl rfl hl.1 rfl (lv_room (Nat.le_of_ble_eq_true rfl)) dL_law_1701 ⟨hc, hsl⟩) hS (fun q _ h => hF q h) hF (fun k9 u t H1 locs ht hvm hw hB hz1 hk1 hS => ?_)
  obtain ⟨u1, f9⟩ := u
  obtain ⟨c1, r1, hcr, hwr⟩ := hw
  try dsimp only at hcr hwr
  cases hcr
  have hcm := an_wrp (by decide) (by decide) (by decide) hwr hAn
  rw [ht] at hB
  have hB : va_P (dC, dI) vwCl ((wFm aF aN aT aL aO aH aP aX ++ (wSt cI aN S ++ (wLo cI aL Y ++ (wOu aO aN aL)))) ++ wOt cJ ao f9) H1 := hB
  have hP := wrk2 (w2 := wFm aF aN aT aL aO aH aP aX ++ (wSt cI aN S ++ (wSt cI aT R ++ (wLo cI aL Y ++ (wOu aO aN aL ++ (wHi cS aH ah G ++ (wZs cI ah Z ++ (wSn cI cZ aP N ++ (wTx cI aX T ++ (wMo cI aM M hs ++ (wOt cJ ao f9))))))))))) (wr := wSt cI aT R ++ (wHi cS aH ah G ++ (wZs cI ah Z ++ (wSn cI cZ aP N ++ (wTx cI aX T ++ (wMo cI aM M hs)))))) hP hD [0, 1, 2, 3, 4, 5, 6, 7, 8, 9, 10, 11, 23, 24, 25, 26, 109] [12, 13, 14, 15, 16, 17, 18, 19, 20, 21, 22, 27, 28, 29, 30, 31, 32, 33, 34, 35, 36, 37, 38, 39, 40, 41, 42, 43, 44, 45, 46, 47, 48, 49, 50, 51, 52, 53, 54, 55, 56, 57, 58, 59, 60, 61, 62, 63, 64, 65, 66, 67, 68, 69, 70, 71, 72, 73, 74, 75, 76, 77, 78, 79, 80, 81, 82, 83, 84, 85, 86, 87, 88, 89, 90, 91, 92, 93, 94, 95, 96, 97, 98, 99, 100, 101, 102, 103, 104, 105, 106, 107, 108] rfl rfl (by decide) hk1 hB [93, 94, 95, 96, 97, 98, 99, 100, 101, 102, 103, 104, 0, 1, 2, 3, 4, 5, 6, 7, 8, 9, 10, 105, 106, 107, 108, 11, 12, 13, 14, 15, 16, 17, 18, 19, 20, 21, 22, 23, 24, 25, 26, 27, 28, 29, 30, 31, 32, 33, 34, 35, 36, 37, 38, 39, 40, 41, 42, 43, 44, 45, 46, 47, 48, 49, 50, 51, 52, 53, 54, 55, 56, 57, 58, 59, 60, 61, 62, 63, 64, 65, 66, 67, 68, 69, 70, 71, 72, 73, 74, 75, 76, 77, 78, 79, 80, 81, 82, 83, 84, 85, 86, 87, 88, 89, 90, 91, 92, 109] rfl
  have hD := D_addr (w1 := wFm aF aN aT aL aO aH aP aX ++ (wSt cI aN S ++ (wSt cI aT R ++ (wLo cI aL Y ++ (wOu aO aN aL ++ (wHi cS aH ah G ++ (wZs cI ah Z ++ (wSn cI cZ aP N ++ (wTx cI aX T ++ (wMo cI aM M hs ++ (wOt cJ ao f9))))))))))) hD rfl
  refine lv_istore (lv' := [(5, .int k9), (0, .ref b), (1, .ref (aF 0)), (2, .ref (aM 0)), (3, .ref ao), (4, .int (nI i))]) hx hb dL_law_1704 hl (by decide) rfl (fun ls hl => ?_)
  refine lv_aload_n hx hb dL_law_1706 rfl (lv_at hl 3 rfl) ?_
  refine law_rd (k := 1) hx hb hX hbl hS hi hL (by decide) (by decide) (lv_at hl 1 rfl) (lv_at hl 5 rfl) dL_law_1707 dL_law_1708 dL_law_1710 dL_law_1711 dL_law_1712 ?_
  refine law_rd (k := 2) hx hb hX hbl hS hi hL (by decide) (by decide) (lv_at hl 1 rfl) (lv_at hl 5 rfl) dL_law_1713 dL_law_1714 dL_law_1716 dL_law_1717 dL_law_1718 ?_
  have hF := va_free (wc := wMo cI aM M hs) hD hS hA [100, 101, 102, 103, 104, 105, 106, 107, 108] rfl
  refine va_calli (va_runV (As := [.int (xs (i + 1)), .int (xs (i + 2))]) (rest := []) ⟨hx, hb, hml, hown, hts⟩ (met_X7_joyOn l dC dI cI cZ cS aM M hs H1.size (xs (i + 1)) (xs (i + 2)) _ e7) (cwV 2 hts gL_law_X7_joyOn rfl rfl rfl (by decide +kernel) ⟨(Nat.le_of_ble_eq_true rfl), (Nat.le_of_ble_eq_true rfl)⟩) (pV (wc := wMo cI aM M hs) (ci := 7) (q0 := 100) hK3 hP hD hN [100, 101, 102, 103, 104, 105, 106, 107, 108] rfl (by decide) rfl rfl) rfl rfl hl.1 rfl (lv_room (Nat.le_of_ble_eq_true rfl)) dL_law_1719 ⟨hc, hsl⟩) hS (fun q _ h => hF q h) hF (fun b9 u t H2 locs ht hvm hw hB hz1 hk1 hS => ?_)
  try dsimp only at hw hB
  cases hw
  rw [ht] at hB
  have hP := wrk2 (w2 := wFm aF aN aT aL aO aH aP aX ++ (wSt cI aN S ++ (wSt cI aT R ++ (wLo cI aL Y ++ (wOu aO aN aL ++ (wHi cS aH ah G ++ (wZs cI ah Z ++ (wSn cI cZ aP N ++ (wTx cI aX T ++ (wMo cI aM M9 hs ++ (wOt cJ ao f9))))))))))) (wr := wFm aF aN aT aL aO aH aP aX ++ (wSt cI aN S ++ (wSt cI aT R ++ (wLo cI aL Y ++ (wOu aO aN aL ++ (wHi cS aH ah G ++ (wZs cI ah Z ++ (wSn cI cZ aP N ++ (wTx cI aX T ++ (wOt cJ ao f9)))))))))) hP hD [100, 101, 102, 103, 104, 105, 106, 107, 108] [0, 1, 2, 3, 4, 5, 6, 7, 8, 9, 10, 11, 12, 13, 14, 15, 16, 17, 18, 19, 20, 21, 22, 23, 24, 25, 26, 27, 28, 29, 30, 31, 32, 33, 34, 35, 36, 37, 38, 39, 40, 41, 42, 43, 44, 45, 46, 47, 48, 49, 50, 51, 52, 53, 54, 55, 56, 57, 58, 59, 60, 61, 62, 63, 64, 65, 66, 67, 68, 69, 70, 71, 72, 73, 74, 75, 76, 77, 78, 79, 80, 81, 82, 83, 84, 85, 86, 87, 88, 89, 90, 91, 92, 93, 94, 95, 96, 97, 98, 99, 109] rfl rfl (by decide) hk1 hB [0, 1, 2, 3, 4, 5, 6, 7, 8, 9, 10, 11, 12, 13, 14, 15, 16, 17, 18, 19, 20, 21, 22, 23, 24, 25, 26, 27, 28, 29, 30, 31, 32, 33, 34, 35, 36, 37, 38, 39, 40, 41, 42, 43, 44, 45, 46, 47, 48, 49, 50, 51, 52, 53, 54, 55, 56, 57, 58, 59, 60, 61, 62, 63, 64, 65, 66, 67, 68, 69, 70, 71, 72, 73, 74, 75, 76, 77, 78, 79, 80, 81, 82, 83, 84, 85, 86, 87, 88, 89, 90, 91, 92, 93, 94, 95, 96, 97, 98, 99, 101, 102, 103, 104, 105, 106, 107, 108, 109, 100] rfl
  have hD := D_addr (w1 := wFm aF aN aT aL aO aH aP aX ++ (wSt cI aN S ++ (wSt cI aT R ++ (wLo cI aL Y ++ (wOu aO aN aL ++ (wHi cS aH ah G ++ (wZs cI ah Z ++ (wSn cI cZ aP N ++ (wTx cI aX T ++ (wMo cI aM M9 hs ++ (wOt cJ ao f9))))))))))) hD rfl
  refine lv_istore (lv' := [(6, .int b0), (5, .int k9), (0, .ref b), (1, .ref (aF 0)), (2, .ref (aM 0)), (3, .ref ao), (4, .int (nI i))]) hx hb dL_law_1722 hl (by decide) rfl (fun ls hl => ?_)
  refine lv_aload_n hx hb dL_law_1724 rfl (lv_at hl 4 rfl) ?_
  refine va_calli (va_runV (As := []) (rest := []) ⟨hx, hb, hml, hown, hts⟩ (met_X7_thrown l dC dI cI cZ cS aM M9 hs H2.size) (cwV 0 hts gL_law_X7_thrown rfl rfl rfl (by decide +kernel) ⟨(Nat.le_of_ble_eq_true rfl), (Nat.le_of_ble_eq_true rfl)⟩) (pV (wc := wMo cI aM M9 hs) (ci := 7) (q0 := 100) hK3 hP hD hN [100, 101, 102, 103, 104, 105, 106, 107, 108] rfl (by decide) rfl rfl) rfl rfl hl.1 rfl (lv_room (Nat.le_of_ble_eq_true rfl)) dL_law_1725 ⟨hc, hsl⟩) hS (fun q _ h => a0_in hS hA q h) (a0_in hS hA) (fun r9 u t H3 locs ht hvm hw hB hz1 hk1 hS => ?_)
  clear hB
  have hP := rdk hP hk1
  have hw : r9 = M9 7 0 := hw
  subst hw
  refine lv_iload hx hb dL_law_1728 (lv_at hl 1 rfl) ?_
  refine lv_icmp_eq (tgt := 1735) hx hb dL_law_1730 (by decide) (fun _ => ?_) (fun q => absurd hcm.1.symm q)
  refine lv_iload hx hb dL_law_1735 (lv_at hl 1 rfl) ?_
  refine lv_if_ne (tgt := 1752) hx hb dL_law_1737 (by decide) (fun q9 => ?_) (fun q9 => ?_)
  · refine lv_goto (tgt := 2002) hx hb dL_law_1752 (by decide) ?_
    exact k _ _ ⟨S, R, Y, G, Z, N, T, M9, hs, f9, hI, hP, hD⟩ hS ls (lv_sub hl [2, 3, 4, 5, 6] rfl)
  · refine lv_aload_n hx hb dL_law_1740 rfl (lv_at hl 5 rfl) ?_
    refine lv_iconst (v := (0 : Int32)) hx hb dL_law_1741 (by decide) ?_
    refine va_lald hx hb hK hP 109 3 rfl rfl (by unfold vp_in; decide) dL_law_1742 ?_
    refine lv_iload hx hb dL_law_1743 (lv_at hl 0 rfl) ?_
    refine lv_i2l (v := b0.toInt64) hx hb dL_law_1745 rfl ?_
    rw [show f9 (0 : Int32).toNatClampNeg = b0.toInt64 from hcm.2 q9]
    refine W.lcmp hx hb dL_law_1746 ?_
    rw [lg_cmp_self]
    refine lv_if_eq (tgt := 1752) hx hb dL_law_1747 (by decide) (fun _ => ?_) (fun q => absurd rfl q)
    refine lv_goto (tgt := 2002) hx hb dL_law_1752 (by decide) ?_
    exact k _ _ ⟨S, R, Y, G, Z, N, T, M9, hs, f9, hI, hP, hD⟩ hS ls (lv_sub hl [2, 3, 4, 5, 6] rfl)
