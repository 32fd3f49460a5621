set_option maxHeartbeats 4000000 in
set_option maxRecDepth 100000 in
theorem law_c_exchange {p : Program} {e : Env} {s : State} {m : MethodId} {below : List Frame} {meth : Method} {c : Code} {Q : State → Prop} (l : Launch) (hfl : l.stackTraces = false) {dC : Nat → ClassId} {dI : Nat → Nat → Nat} {cI cZ cS cJ : ClassId} {b L : Nat} {xs : Nat → Int32} {aF aN aT aL aO aH : Nat → Nat} {ah : Nat → Nat → Nat} {aP aX aM : Nat → Nat} {ao : Nat} (C : LC dC dI cI cZ cS cJ p s m c b L xs) {i : Nat} (hi : i + 5 ≤ L) {cells slots : Nat} (hc : cells + 1 ≤ 601024) (hsl : slots + 6 ≤ 7293034) {H : Heap} {locs : List Loc} (I : LI dC dI cI cZ cS cJ aF aN aT aL aO aH ah aP aX aM ao s H) (hS : va_S (fun q : Nat => s.heap.size ≤ q) s.heap H locs) {ls : Array Slot} (hl : lv_has ls 9 [(0, .ref b), (1, .ref (aF 0)), (2, .ref (aM 0)), (3, .ref ao), (4, .int (nI i))])
    (k : ∀ (H : Heap) (locs : List Loc), LI dC dI cI cZ cS cJ aF aN aT aL aO aH ah aP aX aM ao s H → va_S (fun q : Nat => s.heap.size ≤ q) s.heap H locs → ∀ ls : Array Slot, lv_has ls 9 [(0, .ref b), (1, .ref (aF 0)), (2, .ref (aM 0)), (3, .ref ao), (4, .int (nI i))] → W p l e room_1 s m #[Value.ref b] below meth c H locs (cells + 1) (slots + 6) Q (F0 m 2002 ls [])) : W p l e room_1 s m #[Value.ref b] below meth c H locs cells slots Q (F0 m 736 ls []) := by
  obtain ⟨hx, hb, hml, hown, hts, hK, hN, hXW, hNC, hX, hbl, hL⟩ := C
  obtain ⟨S, R, Y, G, Z, N, T, M, hs, f, hI, hP, hD⟩ := I
  have hA : ∀ q : Nat, s.heap.size ≤ q → (fun q : Nat => s.heap.size ≤ q) q := fun _ h => h
  have hK3 := hK.sub (tys' := tyS cI cZ cS) [0, 1, 2] rfl
  obtain ⟨c0, r0, S9, R9, Y9, G9, Z9, b0, M9, e6, e7, hI, hAn⟩ := st_exchange hI R Y (xs (i + 1)) (xs (i + 2))
  refine lv_aload_n hx hb dL_law_736 rfl (lv_at hl 1 rfl) ?_
  refine law_rd (k := 1) hx hb hX hbl hS hi hL (by decide) (by decide) (lv_at hl 0 rfl) (lv_at hl 4 rfl) dL_law_737 dL_law_738 dL_law_740 dL_law_741 dL_law_742 ?_
  refine law_rd (k := 2) hx hb hX hbl hS hi hL (by decide) (by decide) (lv_at hl 0 rfl) (lv_at hl 4 rfl) dL_law_743 dL_law_744 dL_law_746 dL_law_747 dL_law_748 ?_
  refine lv_aload_n hx hb dL_law_749 rfl (lv_at hl 3 rfl) ?_
  have hF := va_free (wc := (wFm aF aN aT aL aO aH aP aX ++ (wSt cI aN S ++ (wSt cI aT R ++ (wLo cI aL Y ++ (wOu aO aN aL ++ (wHi cS aH ah G ++ (wZs cI ah Z))))))) ++ wOt cJ ao f) hD hS hA [0, 1, 2, 3, 4, 5, 6, 7, 8, 9, 10, 11, 12, 13, 14, 15, 16, 17, 18, 19, 20, 21, 22, 23, 24, 25, 26, 27, 28, 29, 30, 31, 32, 33, 34, 35, 36, 37, 38, 39, 40, 41, 42, 43, 44, 45, 46, 47, 48, 49, 50, 51, 52, 53, 54, 55, 56, 57, 58, 59, 60, 61, 62, 63, 64, 65, 66, 67, 68, 69, 70, 71, 72, 73, 74, 75, 76, 77, 78, 79, 80, 81, 82, 83, 84, 85, 86, 87, 88, 89, 90, 91, 92, 93, 94, 109] rfl
  refine va_calli (vx_runSW (As := [.ref (aF 0), .int (xs (i + 1)), .int (xs (i + 2)), .ref ao]) (rest := []) ⟨hx, hb, hml, hown, hts⟩ (met_L_exchange l hfl dC dI cI cZ cS cJ aF aN aT aL aO aH ah aP aX ao f S R Y G Z s.heap.size H.size (xs (i + 1)) (xs (i + 2)) (c0, r0, S9, R9, Y9, G9, Z9) e6 (fun c r q => by obtain ⟨u, hu⟩ := q; cases hu; exact an_ks hAn)) (vx_cwSW 4 hts gL_law_L_exchange rfl rfl rfl (by decide +kernel) ⟨(Nat.le_of_ble_eq_true rfl), (Nat.le_of_ble_eq_true rfl)⟩) (pLS (wc := (wFm aF aN aT aL aO aH aP aX ++ (wSt cI aN S ++ (wSt cI aT R ++ (wLo cI aL Y ++ (wOu aO aN aL ++ (wHi cS aH ah G ++ (wZs cI ah Z))))))) ++ wOt cJ ao f) hK hP hD hN hXW hNC hS [0, 1, 2, 3, 4, 5, 6, 7, 8, 9, 10, 11, 12, 13, 14, 15, 16, 17, 18, 19, 20, 21, 22, 23, 24, 25, 26, 27, 28, 29, 30, 31, 32, 33, 34, 35, 36, 37, 38, 39, 40, 41, 42, 43, 44, 45, 46, 47, 48, 49, 50, 51, 52, 53, 54, 55, 56, 57, 58, 59, 60, 61, 62, 63, 64, 65, 66, 67, 68, 69, 70, 71, 72, 73, 74, 75, 76, 77, 78, 79, 80, 81, 82, 83, 84, 85, 86, 87, 88, 89, 90, 91, 92, 93, 94, 109] rfl (by decide)) rfl rfl hl.1 rfl (lv_room (Nat.le_of_ble_eq_true rfl)) dL_law_750 ⟨hc, hsl⟩) hS (fun q _ h => hF q h) hF (fun k9 u t H1 locs ht hvm hw hB hz1 hk1 hS => ?_)
  obtain ⟨u1, f9⟩ := u
  obtain ⟨c1, r1, hcr, hwr⟩ := hw
  try dsimp only at hcr hwr
  cases hcr
  have hcm := an_wrp (by decide) (by decide) (by decide) hwr hAn
  rw [ht] at hB
  have hB : va_P (dC, dI) vwCl ((wFm aF aN aT aL aO aH aP aX ++ (wSt cI aN S9 ++ (wSt cI aT R9 ++ (wLo cI aL Y9 ++ (wOu aO aN aL ++ (wHi cS aH ah G9 ++ (wZs cI ah Z9))))))) ++ wOt cJ ao f9) H1 := hB
  have hP := wrk2 (w2 := wFm aF aN aT aL aO aH aP aX ++ (wSt cI aN S9 ++ (wSt cI aT R9 ++ (wLo cI aL Y9 ++ (wOu aO aN aL ++ (wHi cS aH ah G9 ++ (wZs cI ah Z9 ++ (wSn cI cZ aP N ++ (wTx cI aX T ++ (wMo cI aM M hs ++ (wOt cJ ao f9))))))))))) (wr := wSn cI cZ aP N ++ (wTx cI aX T ++ (wMo cI aM M hs))) hP hD [0, 1, 2, 3, 4, 5, 6, 7, 8, 9, 10, 11, 12, 13, 14, 15, 16, 17, 18, 19, 20, 21, 22, 23, 24, 25, 26, 27, 28, 29, 30, 31, 32, 33, 34, 35, 36, 37, 38, 39, 40, 41, 42, 43, 44, 45, 46, 47, 48, 49, 50, 51, 52, 53, 54, 55, 56, 57, 58, 59, 60, 61, 62, 63, 64, 65, 66, 67, 68, 69, 70, 71, 72, 73, 74, 75, 76, 77, 78, 79, 80, 81, 82, 83, 84, 85, 86, 87, 88, 89, 90, 91, 92, 93, 94, 109] [95, 96, 97, 98, 99, 100, 101, 102, 103, 104, 105, 106, 107, 108] rfl rfl (by decide) hk1 hB [14, 15, 16, 17, 18, 19, 20, 21, 22, 23, 24, 25, 26, 27, 28, 29, 30, 31, 32, 33, 34, 35, 36, 37, 38, 39, 40, 41, 42, 43, 44, 45, 46, 47, 48, 49, 50, 51, 52, 53, 54, 55, 56, 57, 58, 59, 60, 61, 62, 63, 64, 65, 66, 67, 68, 69, 70, 71, 72, 73, 74, 75, 76, 77, 78, 79, 80, 81, 82, 83, 84, 85, 86, 87, 88, 89, 90, 91, 92, 93, 94, 95, 96, 97, 98, 99, 100, 101, 102, 103, 104, 105, 106, 107, 108, 0, 1, 2, 3, 4, 5, 6, 7, 8, 9, 10, 11, 12, 13, 109] rfl
  have hD := D_addr (w1 := wFm aF aN aT aL aO aH aP aX ++ (wSt cI aN S9 ++ (wSt cI aT R9 ++ (wLo cI aL Y9 ++ (wOu aO aN aL ++ (wHi cS aH ah G9 ++ (wZs cI ah Z9 ++ (wSn cI cZ aP N ++ (wTx cI aX T ++ (wMo cI aM M hs ++ (wOt cJ ao f9))))))))))) hD rfl
  refine lv_istore (lv' := [(5, .int k9), (0, .ref b), (1, .ref (aF 0)), (2, .ref (aM 0)), (3, .ref ao), (4, .int (nI i))]) hx hb dL_law_753 hl (by decide) rfl (fun ls hl => ?_)
  refine lv_aload_n hx hb dL_law_755 rfl (lv_at hl 3 rfl) ?_
  refine law_rd (k := 1) hx hb hX hbl hS hi hL (by decide) (by decide) (lv_at hl 1 rfl) (lv_at hl 5 rfl) dL_law_756 dL_law_757 dL_law_759 dL_law_760 dL_law_761 ?_
  refine law_rd (k := 2) hx hb hX hbl hS hi hL (by decide) (by decide) (lv_at hl 1 rfl) (lv_at hl 5 rfl) dL_law_762 dL_law_763 dL_law_765 dL_law_766 dL_law_767 ?_
  have hF := va_free (wc := wMo cI aM M hs) hD hS hA [100, 101, 102, 103, 104, 105, 106, 107, 108] rfl
  refine va_calli (va_runV (As := [.int (xs (i + 1)), .int (xs (i + 2))]) (rest := []) ⟨hx, hb, hml, hown, hts⟩ (met_X7_exchange l dC dI cI cZ cS aM M hs H1.size (xs (i + 1)) (xs (i + 2)) _ e7) (cwV 2 hts gL_law_X7_exchange rfl rfl rfl (by decide +kernel) ⟨(Nat.le_of_ble_eq_true rfl), (Nat.le_of_ble_eq_true rfl)⟩) (pV (wc := wMo cI aM M hs) (ci := 7) (q0 := 100) hK3 hP hD hN [100, 101, 102, 103, 104, 105, 106, 107, 108] rfl (by decide) rfl rfl) rfl rfl hl.1 rfl (lv_room (Nat.le_of_ble_eq_true rfl)) dL_law_768 ⟨hc, hsl⟩) hS (fun q _ h => hF q h) hF (fun b9 u t H2 locs ht hvm hw hB hz1 hk1 hS => ?_)
  try dsimp only at hw hB
  cases hw
  rw [ht] at hB
  have hP := wrk2 (w2 := wFm aF aN aT aL aO aH aP aX ++ (wSt cI aN S9 ++ (wSt cI aT R9 ++ (wLo cI aL Y9 ++ (wOu aO aN aL ++ (wHi cS aH ah G9 ++ (wZs cI ah Z9 ++ (wSn cI cZ aP N ++ (wTx cI aX T ++ (wMo cI aM M9 hs ++ (wOt cJ ao f9))))))))))) (wr := wFm aF aN aT aL aO aH aP aX ++ (wSt cI aN S9 ++ (wSt cI aT R9 ++ (wLo cI aL Y9 ++ (wOu aO aN aL ++ (wHi cS aH ah G9 ++ (wZs cI ah Z9 ++ (wSn cI cZ aP N ++ (wTx cI aX T ++ (wOt cJ ao f9)))))))))) hP hD [100, 101, 102, 103, 104, 105, 106, 107, 108] [0, 1, 2, 3, 4, 5, 6, 7, 8, 9, 10, 11, 12, 13, 14, 15, 16, 17, 18, 19, 20, 21, 22, 23, 24, 25, 26, 27, 28, 29, 30, 31, 32, 33, 34, 35, 36, 37, 38, 39, 40, 41, 42, 43, 44, 45, 46, 47, 48, 49, 50, 51, 52, 53, 54, 55, 56, 57, 58, 59, 60, 61, 62, 63, 64, 65, 66, 67, 68, 69, 70, 71, 72, 73, 74, 75, 76, 77, 78, 79, 80, 81, 82, 83, 84, 85, 86, 87, 88, 89, 90, 91, 92, 93, 94, 95, 96, 97, 98, 99, 109] rfl rfl (by decide) hk1 hB [0, 1, 2, 3, 4, 5, 6, 7, 8, 9, 10, 11, 12, 13, 14, 15, 16, 17, 18, 19, 20, 21, 22, 23, 24, 25, 26, 27, 28, 29, 30, 31, 32, 33, 34, 35, 36, 37, 38, 39, 40, 41, 42, 43, 44, 45, 46, 47, 48, 49, 50, 51, 52, 53, 54, 55, 56, 57, 58, 59, 60, 61, 62, 63, 64, 65, 66, 67, 68, 69, 70, 71, 72, 73, 74, 75, 76, 77, 78, 79, 80, 81, 82, 83, 84, 85, 86, 87, 88, 89, 90, 91, 92, 93, 94, 95, 96, 97, 98, 99, 101, 102, 103, 104, 105, 106, 107, 108, 109, 100] rfl
  have hD := D_addr (w1 := wFm aF aN aT aL aO aH aP aX ++ (wSt cI aN S9 ++ (wSt cI aT R9 ++ (wLo cI aL Y9 ++ (wOu aO aN aL ++ (wHi cS aH ah G9 ++ (wZs cI ah Z9 ++ (wSn cI cZ aP N ++ (wTx cI aX T ++ (wMo cI aM M9 hs ++ (wOt cJ ao f9))))))))))) hD rfl
  refine lv_istore (lv' := [(6, .int b0), (5, .int k9), (0, .ref b), (1, .ref (aF 0)), (2, .ref (aM 0)), (3, .ref ao), (4, .int (nI i))]) hx hb dL_law_771 hl (by decide) rfl (fun ls hl => ?_)
  refine lv_aload_n hx hb dL_law_773 rfl (lv_at hl 4 rfl) ?_
  refine va_calli (va_runV (As := []) (rest := []) ⟨hx, hb, hml, hown, hts⟩ (met_X7_thrown l dC dI cI cZ cS aM M9 hs H2.size) (cwV 0 hts gL_law_X7_thrown rfl rfl rfl (by decide +kernel) ⟨(Nat.le_of_ble_eq_true rfl), (Nat.le_of_ble_eq_true rfl)⟩) (pV (wc := wMo cI aM M9 hs) (ci := 7) (q0 := 100) hK3 hP hD hN [100, 101, 102, 103, 104, 105, 106, 107, 108] rfl (by decide) rfl rfl) rfl rfl hl.1 rfl (lv_room (Nat.le_of_ble_eq_true rfl)) dL_law_774 ⟨hc, hsl⟩) hS (fun q _ h => a0_in hS hA q h) (a0_in hS hA) (fun r9 u t H3 locs ht hvm hw hB hz1 hk1 hS => ?_)
  clear hB
  have hP := rdk hP hk1
  have hw : r9 = M9 7 0 := hw
  subst hw
  refine lv_iload hx hb dL_law_777 (lv_at hl 1 rfl) ?_
  refine lv_icmp_eq (tgt := 784) hx hb dL_law_779 (by decide) (fun _ => ?_) (fun q => absurd hcm.1.symm q)
  refine lv_iload hx hb dL_law_784 (lv_at hl 1 rfl) ?_
  refine lv_if_ne (tgt := 801) hx hb dL_law_786 (by decide) (fun q9 => ?_) (fun q9 => ?_)
  · refine lv_goto (tgt := 2002) hx hb dL_law_801 (by decide) ?_
    exact k _ _ ⟨S9, R9, Y9, G9, Z9, N, T, M9, hs, f9, hI, hP, hD⟩ hS ls (lv_sub hl [2, 3, 4, 5, 6] rfl)
  · refine lv_aload_n hx hb dL_law_789 rfl (lv_at hl 5 rfl) ?_
    refine lv_iconst (v := (0 : Int32)) hx hb dL_law_790 (by decide) ?_
    refine va_lald hx hb hK hP 109 3 rfl rfl (by unfold vp_in; decide) dL_law_791 ?_
    refine lv_iload hx hb dL_law_792 (lv_at hl 0 rfl) ?_
    refine lv_i2l (v := b0.toInt64) hx hb dL_law_794 rfl ?_
    rw [show f9 (0 : Int32).toNatClampNeg = b0.toInt64 from hcm.2 q9]
    refine W.lcmp hx hb dL_law_795 ?_
    rw [lg_cmp_self]
    refine lv_if_eq (tgt := 801) hx hb dL_law_796 (by decide) (fun _ => ?_) (fun q => absurd rfl q)
    refine lv_goto (tgt := 2002) hx hb dL_law_801 (by decide) ?_
    exact k _ _ ⟨S9, R9, Y9, G9, Z9, N, T, M9, hs, f9, hI, hP, hD⟩ hS ls (lv_sub hl [2, 3, 4, 5, 6] rfl)
set_option maxHeartbeats 4000000 in
set_option maxRecDepth 100000 in
theorem law_c_fill {p : Program} {e : Env} {s : State} {m : MethodId} {below : List Frame} {meth : Method} {c : Code} {Q : State → Prop} (l : Launch) (hfl : l.stackTraces = false) {dC : Nat → ClassId} {dI : Nat → Nat → Nat} {cI cZ cS cJ : ClassId} {b L : Nat} {xs : Nat → Int32} {aF aN aT aL aO aH : Nat → Nat} {ah : Nat → Nat → Nat} {aP aX aM : Nat → Nat} {ao : Nat} (C : LC dC dI cI cZ cS cJ p s m c b L xs) {i : Nat} (hi : i + 5 ≤ L) {cells slots : Nat} (hc : cells + 1 ≤ 601024) (hsl : slots + 6 ≤ 7293034) {H : Heap} {locs : List Loc} (I : LI dC dI cI cZ cS cJ aF aN aT aL aO aH ah aP aX aM ao s H) (hS : va_S (fun q : Nat => s.heap.size ≤ q) s.heap H locs) {ls : Array Slot} (hl : lv_has ls 9 [(0, .ref b), (1, .ref (aF 0)), (2, .ref (aM 0)), (3, .ref ao), (4, .int (nI i))])
    (k : ∀ (H : Heap) (locs : List Loc), LI dC dI cI cZ cS cJ aF aN aT aL aO aH ah aP aX aM ao s H → va_S (fun q : Nat => s.heap.size ≤ q) s.heap H locs → ∀ ls : Array Slot, lv_has ls 9 [(0, .ref b), (1, .ref (aF 0)), (2, .ref (aM 0)), (3, .ref ao), (4, .int (nI i))] → W p l e room_1 s m #[Value.ref b] below meth c H locs (cells + 1) (slots + 6) Q (F0 m 2002 ls [])) : W p l e room_1 s m #[Value.ref b] below meth c H locs cells slots Q (F0 m 804 ls []) := by
  obtain ⟨hx, hb, hml, hown, hts, hK, hN, hXW, hNC, hX, hbl, hL⟩ := C
  obtain ⟨S, R, Y, G, Z, N, T, M, hs, f, hI, hP, hD⟩ := I
  have hA : ∀ q : Nat, s.heap.size ≤ q → (fun q : Nat => s.heap.size ≤ q) q := fun _ h => h
  have hK3 := hK.sub (tys' := tyS cI cZ cS) [0, 1, 2] rfl
  obtain ⟨c0, r0, S9, Y9, G9, Z9, b0, M9, e6, e7, hI, hAn⟩ := st_fill hI Y (xs (i + 1))
  refine lv_aload_n hx hb dL_law_804 rfl (lv_at hl 1 rfl) ?_
  refine law_rd (k := 1) hx hb hX hbl hS hi hL (by decide) (by decide) (lv_at hl 0 rfl) (lv_at hl 4 rfl) dL_law_805 dL_law_806 dL_law_808 dL_law_809 dL_law_810 ?_
  refine lv_aload_n hx hb dL_law_811 rfl (lv_at hl 3 rfl) ?_
  have hF := va_free (wc := (wFm aF aN aT aL aO aH aP aX ++ (wSt cI aN S ++ (wLo cI aL Y ++ (wOu aO aN aL ++ (wHi cS aH ah G ++ (wZs cI ah Z)))))) ++ wOt cJ ao f) hD hS hA [0, 1, 2, 3, 4, 5, 6, 7, 8, 9, 10, 11, 23, 24, 25, 26, 27, 28, 29, 30, 31, 32, 33, 34, 35, 36, 37, 38, 39, 40, 41, 42, 43, 44, 45, 46, 47, 48, 49, 50, 51, 52, 53, 54, 55, 56, 57, 58, 59, 60, 61, 62, 63, 64, 65, 66, 67, 68, 69, 70, 71, 72, 73, 74, 75, 76, 77, 78, 79, 80, 81, 82, 83, 84, 85, 86, 87, 88, 89, 90, 91, 92, 93, 94, 109] rfl
  refine va_calli (vx_runSW (As := [.ref (aF 0), .int (xs (i + 1)), .ref ao]) (rest := []) ⟨hx, hb, hml, hown, hts⟩ (met_L_fill l hfl dC dI cI cZ cS cJ aF aN aT aL aO aH ah aP aX ao f S Y G Z s.heap.size H.size (xs (i + 1)) (c0, r0, S9, Y9, G9, Z9) e6 (fun c r q => by obtain ⟨u, hu⟩ := q; cases hu; exact an_ks hAn)) (vx_cwSW 3 hts gL_law_L_fill rfl rfl rfl (by decide +kernel) ⟨(Nat.le_of_ble_eq_true rfl), (Nat.le_of_ble_eq_true rfl)⟩) (pLS (wc := (wFm aF aN aT aL aO aH aP aX ++ (wSt cI aN S ++ (wLo cI aL Y ++ (wOu aO aN aL ++ (wHi cS aH ah G ++ (wZs cI ah Z)))))) ++ wOt cJ ao f) hK hP hD hN hXW hNC hS [0, 1, 2, 3, 4, 5, 6, 7, 8, 9, 10, 11, 23, 24, 25, 26, 27, 28, 29, 30, 31, 32, 33, 34, 35, 36, 37, 38, 39, 40, 41, 42, 43, 44, 45, 46, 47, 48, 49, 50, 51, 52, 53, 54, 55, 56, 57, 58, 59, 60, 61, 62, 63, 64, 65, 66, 67, 68, 69, 70, 71, 72, 73, 74, 75, 76, 77, 78, 79, 80, 81, 82, 83, 84, 85, 86, 87, 88, 89, 90, 91, 92, 93, 94, 109] rfl (by decide)) rfl rfl hl.1 rfl (lv_room (Nat.le_of_ble_eq_true rfl)) dL_law_812 ⟨hc, hsl⟩) hS (fun q _ h => hF q h) hF (fun k9 u t H1 locs ht hvm hw hB hz1 hk1 hS => ?_)
  obtain ⟨u1, f9⟩ := u
  obtain ⟨c1, r1, hcr, hwr⟩ := hw
  try dsimp only at hcr hwr
  cases hcr
  have hcm := an_wrp (by decide) (by decide) (by decide) hwr hAn
  rw [ht] at hB
  have hB : va_P (dC, dI) vwCl ((wFm aF aN aT aL aO aH aP aX ++ (wSt cI aN S9 ++ (wLo cI aL Y9 ++ (wOu aO aN aL ++ (wHi cS aH ah G9 ++ (wZs cI ah Z9)))))) ++ wOt cJ ao f9) H1 := hB
  have hP := wrk2 (w2 := wFm aF aN aT aL aO aH aP aX ++ (wSt cI aN S9 ++ (wSt cI aT R ++ (wLo cI aL Y9 ++ (wOu aO aN aL ++ (wHi cS aH ah G9 ++ (wZs cI ah Z9 ++ (wSn cI cZ aP N ++ (wTx cI aX T ++ (wMo cI aM M hs ++ (wOt cJ ao f9))))))))))) (wr := wSt cI aT R ++ (wSn cI cZ aP N ++ (wTx cI aX T ++ (wMo cI aM M hs)))) hP hD [0, 1, 2, 3, 4, 5, 6, 7, 8, 9, 10, 11, 23, 24, 25, 26, 27, 28, 29, 30, 31, 32, 33, 34, 35, 36, 37, 38, 39, 40, 41, 42, 43, 44, 45, 46, 47, 48, 49, 50, 51, 52, 53, 54, 55, 56, 57, 58, 59, 60, 61, 62, 63, 64, 65, 66, 67, 68, 69, 70, 71, 72, 73, 74, 75, 76, 77, 78, 79, 80, 81, 82, 83, 84, 85, 86, 87, 88, 89, 90, 91, 92, 93, 94, 109] [12, 13, 14, 15, 16, 17, 18, 19, 20, 21, 22, 95, 96, 97, 98, 99, 100, 101, 102, 103, 104, 105, 106, 107, 108] rfl rfl (by decide) hk1 hB [25, 26, 27, 28, 29, 30, 31, 32, 33, 34, 35, 36, 0, 1, 2, 3, 4, 5, 6, 7, 8, 9, 10, 37, 38, 39, 40, 41, 42, 43, 44, 45, 46, 47, 48, 49, 50, 51, 52, 53, 54, 55, 56, 57, 58, 59, 60, 61, 62, 63, 64, 65, 66, 67, 68, 69, 70, 71, 72, 73, 74, 75, 76, 77, 78, 79, 80, 81, 82, 83, 84, 85, 86, 87, 88, 89, 90, 91, 92, 93, 94, 95, 96, 97, 98, 99, 100, 101, 102, 103, 104, 105, 106, 107, 108, 11, 12, 13, 14, 15, 16, 17, 18, 19, 20, 21, 22, 23, 24, 109] rfl
  have hD := D_addr (w1 := wFm aF aN aT aL aO aH aP aX ++ (wSt cI aN S9 ++ (wSt cI aT R ++ (wLo cI aL Y9 ++ (wOu aO aN aL ++ (wHi cS aH ah G9 ++ (wZs cI ah Z9 ++ (wSn cI cZ aP N ++ (wTx cI aX T ++ (wMo cI aM M hs ++ (wOt cJ ao f9))))))))))) hD rfl
  refine lv_istore (lv' := [(5, .int k9), (0, .ref b), (1, .ref (aF 0)), (2, .ref (aM 0)), (3, .ref ao), (4, .int (nI i))]) hx hb dL_law_815 hl (by decide) rfl (fun ls hl => ?_)
  refine lv_aload_n hx hb dL_law_817 rfl (lv_at hl 3 rfl) ?_
  refine law_rd (k := 1) hx hb hX hbl hS hi hL (by decide) (by decide) (lv_at hl 1 rfl) (lv_at hl 5 rfl) dL_law_818 dL_law_819 dL_law_821 dL_law_822 dL_law_823 ?_
  have hF := va_free (wc := wMo cI aM M hs) hD hS hA [100, 101, 102, 103, 104, 105, 106, 107, 108] rfl
  refine va_calli (va_runV (As := [.int (xs (i + 1))]) (rest := []) ⟨hx, hb, hml, hown, hts⟩ (met_X7_fill l dC dI cI cZ cS aM M hs H1.size (xs (i + 1)) _ e7) (cwV 1 hts gL_law_X7_fill rfl rfl rfl (by decide +kernel) ⟨(Nat.le_of_ble_eq_true rfl), (Nat.le_of_ble_eq_true rfl)⟩) (pV (wc := wMo cI aM M hs) (ci := 7) (q0 := 100) hK3 hP hD hN [100, 101, 102, 103, 104, 105, 106, 107, 108] rfl (by decide) rfl rfl) rfl rfl hl.1 rfl (lv_room (Nat.le_of_ble_eq_true rfl)) dL_law_824 ⟨hc, hsl⟩) hS (fun q _ h => hF q h) hF (fun b9 u t H2 locs ht hvm hw hB hz1 hk1 hS => ?_)
  try dsimp only at hw hB
  cases hw
  rw [ht] at hB
  have hP := wrk2 (w2 := wFm aF aN aT aL aO aH aP aX ++ (wSt cI aN S9 ++ (wSt cI aT R ++ (wLo cI aL Y9 ++ (wOu aO aN aL ++ (wHi cS aH ah G9 ++ (wZs cI ah Z9 ++ (wSn cI cZ aP N ++ (wTx cI aX T ++ (wMo cI aM M9 hs ++ (wOt cJ ao f9))))))))))) (wr := wFm aF aN aT aL aO aH aP aX ++ (wSt cI aN S9 ++ (wSt cI aT R ++ (wLo cI aL Y9 ++ (wOu aO aN aL ++ (wHi cS aH ah G9 ++ (wZs cI ah Z9 ++ (wSn cI cZ aP N ++ (wTx cI aX T ++ (wOt cJ ao f9)))))))))) hP hD [100, 101, 102, 103, 104, 105, 106, 107, 108] [0, 1, 2, 3, 4, 5, 6, 7, 8, 9, 10, 11, 12, 13, 14, 15, 16, 17, 18, 19, 20, 21, 22, 23, 24, 25, 26, 27, 28, 29, 30, 31, 32, 33, 34, 35, 36, 37, 38, 39, 40, 41, 42, 43, 44, 45, 46, 47, 48, 49, 50, 51, 52, 53, 54, 55, 56, 57, 58, 59, 60, 61, 62, 63, 64, 65, 66, 67, 68, 69, 70, 71, 72, 73, 74, 75, 76, 77, 78, 79, 80, 81, 82, 83, 84, 85, 86, 87, 88, 89, 90, 91, 92, 93, 94, 95, 96, 97, 98, 99, 109] rfl rfl (by decide) hk1 hB [0, 1, 2, 3, 4, 5, 6, 7, 8, 9, 10, 11, 12, 13, 14, 15, 16, 17, 18, 19, 20, 21, 22, 23, 24, 25, 26, 27, 28, 29, 30, 31, 32, 33, 34, 35, 36, 37, 38, 39, 40, 41, 42, 43, 44, 45, 46, 47, 48, 49, 50, 51, 52, 53, 54, 55, 56, 57, 58, 59, 60, 61, 62, 63, 64, 65, 66, 67, 68, 69, 70, 71, 72, 73, 74, 75, 76, 77, 78, 79, 80, 81, 82, 83, 84, 85, 86, 87, 88, 89, 90, 91, 92, 93, 94, 95, 96, 97, 98, 99, 101, 102, 103, 104, 105, 106, 107, 108, 109, 100] rfl
  have hD := D_addr (w1 := wFm aF aN aT aL aO aH aP aX ++ (wSt cI aN S9 ++ (wSt cI aT R ++ (wLo cI aL Y9 ++ (wOu aO aN aL ++ (wHi cS aH ah G9 ++ (wZs cI ah Z9 ++ (wSn cI cZ aP N ++ (wTx cI aX T ++ (wMo cI aM M9 hs ++ (wOt cJ ao f9))))))))))) hD rfl
  refine lv_istore (lv' := [(6, .int b0), (5, .int k9), (0, .ref b), (1, .ref (aF 0)), (2, .ref (aM 0)), (3, .ref ao), (4, .int (nI i))]) hx hb dL_law_827 hl (by decide) rfl (fun ls hl => ?_)
  refine lv_aload_n hx hb dL_law_829 rfl (lv_at hl 4 rfl) ?_
  refine va_calli (va_runV (As := []) (rest := []) ⟨hx, hb, hml, hown, hts⟩ (met_X7_thrown l dC dI cI cZ cS aM M9 hs H2.size) (cwV 0 hts gL_law_X7_thrown rfl rfl rfl (by decide +kernel) ⟨(Nat.le_of_ble_eq_true rfl), (Nat.le_of_ble_eq_true rfl)⟩) (pV (wc := wMo cI aM M9 hs) (ci := 7) (q0 := 100) hK3 hP hD hN [100, 101, 102, 103, 104, 105, 106, 107, 108] rfl (by decide) rfl rfl) rfl rfl hl.1 rfl (lv_room (Nat.le_of_ble_eq_true rfl)) dL_law_830 ⟨hc, hsl⟩) hS (fun q _ h => a0_in hS hA q h) (a0_in hS hA) (fun r9 u t H3 locs ht hvm hw hB hz1 hk1 hS => ?_)
  clear hB
  have hP := rdk hP hk1
  have hw : r9 = M9 7 0 := hw
  subst hw
  refine lv_iload hx hb dL_law_833 (lv_at hl 1 rfl) ?_
  refine lv_icmp_eq (tgt := 840) hx hb dL_law_835 (by decide) (fun _ => ?_) (fun q => absurd hcm.1.symm q)
  refine lv_iload hx hb dL_law_840 (lv_at hl 1 rfl) ?_
  refine lv_if_ne (tgt := 857) hx hb dL_law_842 (by decide) (fun q9 => ?_) (fun q9 => ?_)
  · refine lv_goto (tgt := 2002) hx hb dL_law_857 (by decide) ?_
    exact k _ _ ⟨S9, R, Y9, G9, Z9, N, T, M9, hs, f9, hI, hP, hD⟩ hS ls (lv_sub hl [2, 3, 4, 5, 6] rfl)
  · refine lv_aload_n hx hb dL_law_845 rfl (lv_at hl 5 rfl) ?_
    refine lv_iconst (v := (0 : Int32)) hx hb dL_law_846 (by decide) ?_
    refine va_lald hx hb hK hP 109 3 rfl rfl (by unfold vp_in; decide) dL_law_847 ?_
    refine lv_iload hx hb dL_law_848 (lv_at hl 0 rfl) ?_
    refine lv_i2l (v := b0.toInt64) hx hb dL_law_850 rfl ?_
    rw [show f9 (0 : Int32).toNatClampNeg = b0.toInt64 from hcm.2 q9]
    refine W.lcmp hx hb dL_law_851 ?_
    rw [lg_cmp_self]
    refine lv_if_eq (tgt := 857) hx hb dL_law_852 (by decide) (fun _ => ?_) (fun q => absurd rfl q)
    refine lv_goto (tgt := 2002) hx hb dL_law_857 (by decide) ?_
    exact k _ _ ⟨S9, R, Y9, G9, Z9, N, T, M9, hs, f9, hI, hP, hD⟩ hS ls (lv_sub hl [2, 3, 4, 5, 6] rfl)
set_option maxHeartbeats 4000000 in
set_option maxRecDepth 100000 in
theorem law_c_append {p : Program} {e : Env} {s : State} {m : MethodId} {below : List Frame} {meth : Method} {c : Code} {Q : State → Prop} (l : Launch) (hfl : l.stackTraces = false) {dC : Nat → ClassId} {dI : Nat → Nat → Nat} {cI cZ cS cJ : ClassId} {b L : Nat} {xs : Nat → Int32} {aF aN aT aL aO aH : Nat → Nat} {ah : Nat → Nat → Nat} {aP aX aM : Nat → Nat} {ao : Nat} (C : LC dC dI cI cZ cS cJ p s m c b L xs) {i : Nat} (hi : i + 5 ≤ L) {cells slots : Nat} (hc : cells + 1 ≤ 601024) (hsl : slots + 6 ≤ 7293034) {H : Heap} {locs : List Loc} (I : LI dC dI cI cZ cS cJ aF aN aT aL aO aH ah aP aX aM ao s H) (hS : va_S (fun q : Nat => s.heap.size ≤ q) s.heap H locs) {ls : Array Slot} (hl : lv_has ls 9 [(0, .ref b), (1, .ref (aF 0)), (2, .ref (aM 0)), (3, .ref ao), (4, .int (nI i))])
    (k : ∀ (H : Heap) (locs : List Loc), LI dC dI cI cZ cS cJ aF aN aT aL aO aH ah aP aX aM ao s H → va_S (fun q : Nat => s.heap.size ≤ q) s.heap H locs → ∀ ls : Array Slot, lv_has ls 9 [(0, .ref b), (1, .ref (aF 0)), (2, .ref (aM 0)), (3, .ref ao), (4, .int (nI i))] → W p l e room_1 s m #[Value.ref b] below meth c H locs (cells + 1) (slots + 6) Q (F0 m 2002 ls [])) : W p l e room_1 s m #[Value.ref b] below meth c H locs cells slots Q (F0 m 873 ls []) := by
  obtain ⟨hx, hb, hml, hown, hts, hK, hN, hXW, hNC, hX, hbl, hL⟩ := C
  obtain ⟨S, R, Y, G, Z, N, T, M, hs, f, hI, hP, hD⟩ := I
  have hA : ∀ q : Nat, s.heap.size ≤ q → (fun q : Nat => s.heap.size ≤ q) q := fun _ h => h
  have hK3 := hK.sub (tys' := tyS cI cZ cS) [0, 1, 2] rfl
  obtain ⟨c0, r0, T9, b0, M9, e6, e7, hI, hAn⟩ := st_append hI (xs (i + 1))
  refine lv_aload_n hx hb dL_law_873 rfl (lv_at hl 1 rfl) ?_
  refine law_rd (k := 1) hx hb hX hbl hS hi hL (by decide) (by decide) (lv_at hl 0 rfl) (lv_at hl 4 rfl) dL_law_874 dL_law_875 dL_law_877 dL_law_878 dL_law_879 ?_
  refine lv_aload_n hx hb dL_law_880 rfl (lv_at hl 3 rfl) ?_
  have hF := va_free (wc := (wFm aF aN aT aL aO aH aP aX ++ (wTx cI aX T)) ++ wOt cJ ao f) hD hS hA [0, 98, 99, 109] rfl
  refine va_calli (vx_runSW (As := [.ref (aF 0), .int (xs (i + 1)), .ref ao]) (rest := []) ⟨hx, hb, hml, hown, hts⟩ (met_L_append l hfl dC dI cI cZ cS cJ aF aN aT aL aO aH ah aP aX ao f T s.heap.size H.size (xs (i + 1)) (c0, r0, T9) e6 (fun c r q => by obtain ⟨u, hu⟩ := q; cases hu; exact an_ks hAn)) (vx_cwSW 3 hts gL_law_L_append rfl rfl rfl (by decide +kernel) ⟨(Nat.le_of_ble_eq_true rfl), (Nat.le_of_ble_eq_true rfl)⟩) (pLS (wc := (wFm aF aN aT aL aO aH aP aX ++ (wTx cI aX T)) ++ wOt cJ ao f) hK hP hD hN hXW hNC hS [0, 98, 99, 109] rfl (by decide)) rfl rfl hl.1 rfl (lv_room (Nat.le_of_ble_eq_true rfl)) dL_law_881 ⟨hc, hsl⟩) hS (fun q _ h => hF q h) hF (fun k9 u t H1 locs ht hvm hw hB hz1 hk1 hS => ?_)
  obtain ⟨u1, f9⟩ := u
  obtain ⟨c1, r1, hcr, hwr⟩ := hw
  try dsimp only at hcr hwr
  cases hcr
  have hcm := an_wrp (by decide) (by decide) (by decide) hwr hAn
  rw [ht] at hB
  have hB : va_P (dC, dI) vwCl ((wFm aF aN aT aL aO aH aP aX ++ (wTx cI aX T9)) ++ wOt cJ ao f9) H1 := hB
  have hP := wrk2 (w2 := wFm aF aN aT aL aO aH aP aX ++ (wSt cI aN S ++ (wSt cI aT R ++ (wLo cI aL Y ++ (wOu aO aN aL ++ (wHi cS aH ah G ++ (wZs cI ah Z ++ (wSn cI cZ aP N ++ (wTx cI aX T9 ++ (wMo cI aM M hs ++ (wOt cJ ao f9))))))))))) (wr := wSt cI aN S ++ (wSt cI aT R ++ (wLo cI aL Y ++ (wOu aO aN aL ++ (wHi cS aH ah G ++ (wZs cI ah Z ++ (wSn cI cZ aP N ++ (wMo cI aM M hs)))))))) hP hD [0, 98, 99, 109] [1, 2, 3, 4, 5, 6, 7, 8, 9, 10, 11, 12, 13, 14, 15, 16, 17, 18, 19, 20, 21, 22, 23, 24, 25, 26, 27, 28, 29, 30, 31, 32, 33, 34, 35, 36, 37, 38, 39, 40, 41, 42, 43, 44, 45, 46, 47, 48, 49, 50, 51, 52, 53, 54, 55, 56, 57, 58, 59, 60, 61, 62, 63, 64, 65, 66, 67, 68, 69, 70, 71, 72, 73, 74, 75, 76, 77, 78, 79, 80, 81, 82, 83, 84, 85, 86, 87, 88, 89, 90, 91, 92, 93, 94, 95, 96, 97, 100, 101, 102, 103, 104, 105, 106, 107, 108] rfl rfl (by decide) hk1 hB [106, 0, 1, 2, 3, 4, 5, 6, 7, 8, 9, 10, 11, 12, 13, 14, 15, 16, 17, 18, 19, 20, 21, 22, 23, 24, 25, 26, 27, 28, 29, 30, 31, 32, 33, 34, 35, 36, 37, 38, 39, 40, 41, 42, 43, 44, 45, 46, 47, 48, 49, 50, 51, 52, 53, 54, 55, 56, 57, 58, 59, 60, 61, 62, 63, 64, 65, 66, 67, 68, 69, 70, 71, 72, 73, 74, 75, 76, 77, 78, 79, 80, 81, 82, 83, 84, 85, 86, 87, 88, 89, 90, 91, 92, 93, 94, 95, 96, 107, 108, 97, 98, 99, 100, 101, 102, 103, 104, 105, 109] rfl
  have hD := D_addr (w1 := wFm aF aN aT aL aO aH aP aX ++ (wSt cI aN S ++ (wSt cI aT R ++ (wLo cI aL Y ++ (wOu aO aN aL ++ (wHi cS aH ah G ++ (wZs cI ah Z ++ (wSn cI cZ aP N ++ (wTx cI aX T9 ++ (wMo cI aM M hs ++ (wOt cJ ao f9))))))))))) hD rfl
  refine lv_istore (lv' := [(5, .int k9), (0, .ref b), (1, .ref (aF 0)), (2, .ref (aM 0)), (3, .ref ao), (4, .int (nI i))]) hx hb dL_law_884 hl (by decide) rfl (fun ls hl => ?_)
  refine lv_aload_n hx hb dL_law_886 rfl (lv_at hl 3 rfl) ?_
  refine law_rd (k := 1) hx hb hX hbl hS hi hL (by decide) (by decide) (lv_at hl 1 rfl) (lv_at hl 5 rfl) dL_law_887 dL_law_888 dL_law_890 dL_law_891 dL_law_892 ?_
  have hF := va_free (wc := wMo cI aM M hs) hD hS hA [100, 101, 102, 103, 104, 105, 106, 107, 108] rfl
  refine va_calli (va_runV (As := [.int (xs (i + 1))]) (rest := []) ⟨hx, hb, hml, hown, hts⟩ (met_X7_append l dC dI cI cZ cS aM M hs H1.size (xs (i + 1)) _ e7) (cwV 1 hts gL_law_X7_append rfl rfl rfl (by decide +kernel) ⟨(Nat.le_of_ble_eq_true rfl), (Nat.le_of_ble_eq_true rfl)⟩) (pV (wc := wMo cI aM M hs) (ci := 7) (q0 := 100) hK3 hP hD hN [100, 101, 102, 103, 104, 105, 106, 107, 108] rfl (by decide) rfl rfl) rfl rfl hl.1 rfl (lv_room (Nat.le_of_ble_eq_true rfl)) dL_law_893 ⟨hc, hsl⟩) hS (fun q _ h => hF q h) hF (fun b9 u t H2 locs ht hvm hw hB hz1 hk1 hS => ?_)
  try dsimp only at hw hB
  cases hw
  rw [ht] at hB
  have hP := wrk2 (w2 := wFm aF aN aT aL aO aH aP aX ++ (wSt cI aN S ++ (wSt cI aT R ++ (wLo cI aL Y ++ (wOu aO aN aL ++ (wHi cS aH ah G ++ (wZs cI ah Z ++ (wSn cI cZ aP N ++ (wTx cI aX T9 ++ (wMo cI aM M9 hs ++ (wOt cJ ao f9))))))))))) (wr := wFm aF aN aT aL aO aH aP aX ++ (wSt cI aN S ++ (wSt cI aT R ++ (wLo cI aL Y ++ (wOu aO aN aL ++ (wHi cS aH ah G ++ (wZs cI ah Z ++ (wSn cI cZ aP N ++ (wTx cI aX T9 ++ (wOt cJ ao f9)))))))))) hP hD [100, 101, 102, 103, 104, 105, 106, 107, 108] [0, 1, 2, 3, 4, 5, 6, 7, 8, 9, 10, 11, 12, 13, 14, 15, 16, 17, 18, 19, 20, 21, 22, 23, 24, 25, 26, 27, 28, 29, 30, 31, 32, 33, 34, 35, 36, 37, 38, 39, 40, 41, 42, 43, 44, 45, 46, 47, 48, 49, 50, 51, 52, 53, 54, 55, 56, 57, 58, 59, 60, 61, 62, 63, 64, 65, 66, 67, 68, 69, 70, 71, 72, 73, 74, 75, 76, 77, 78, 79, 80, 81, 82, 83, 84, 85, 86, 87, 88, 89, 90, 91, 92, 93, 94, 95, 96, 97, 98, 99, 109] rfl rfl (by decide) hk1 hB [0, 1, 2, 3, 4, 5, 6, 7, 8, 9, 10, 11, 12, 13, 14, 15, 16, 17, 18, 19, 20, 21, 22, 23, 24, 25, 26, 27, 28, 29, 30, 31, 32, 33, 34, 35, 36, 37, 38, 39, 40, 41, 42, 43, 44, 45, 46, 47, 48, 49, 50, 51, 52, 53, 54, 55, 56, 57, 58, 59, 60, 61, 62, 63, 64, 65, 66, 67, 68, 69, 70, 71, 72, 73, 74, 75, 76, 77, 78, 79, 80, 81, 82, 83, 84, 85, 86, 87, 88, 89, 90, 91, 92, 93, 94, 95, 96, 97, 98, 99, 101, 102, 103, 104, 105, 106, 107, 108, 109, 100] rfl
  have hD := D_addr (w1 := wFm aF aN aT aL aO aH aP aX ++ (wSt cI aN S ++ (wSt cI aT R ++ (wLo cI aL Y ++ (wOu aO aN aL ++ (wHi cS aH ah G ++ (wZs cI ah Z ++ (wSn cI cZ aP N ++ (wTx cI aX T9 ++ (wMo cI aM M9 hs ++ (wOt cJ ao f9))))))))))) hD rfl
  refine lv_istore (lv' := [(6, .int b0), (5, .int k9), (0, .ref b), (1, .ref (aF 0)), (2, .ref (aM 0)), (3, .ref ao), (4, .int (nI i))]) hx hb dL_law_896 hl (by decide) rfl (fun ls hl => ?_)
  refine lv_aload_n hx hb dL_law_898 rfl (lv_at hl 4 rfl) ?_
  refine va_calli (va_runV (As := []) (rest := []) ⟨hx, hb, hml, hown, hts⟩ (met_X7_thrown l dC dI cI cZ cS aM M9 hs H2.size) (cwV 0 hts gL_law_X7_thrown rfl rfl rfl (by decide +kernel) ⟨(Nat.le_of_ble_eq_true rfl), (Nat.le_of_ble_eq_true rfl)⟩) (pV (wc := wMo cI aM M9 hs) (ci := 7) (q0 := 100) hK3 hP hD hN [100, 101, 102, 103, 104, 105, 106, 107, 108] rfl (by decide) rfl rfl) rfl rfl hl.1 rfl (lv_room (Nat.le_of_ble_eq_true rfl)) dL_law_899 ⟨hc, hsl⟩) hS (fun q _ h => a0_in hS hA q h) (a0_in hS hA) (fun r9 u t H3 locs ht hvm hw hB hz1 hk1 hS => ?_)
  clear hB
  have hP := rdk hP hk1
  have hw : r9 = M9 7 0 := hw
  subst hw
  refine lv_iload hx hb dL_law_902 (lv_at hl 1 rfl) ?_
  refine lv_icmp_eq (tgt := 909) hx hb dL_law_904 (by decide) (fun _ => ?_) (fun q => absurd hcm.1.symm q)
  refine lv_iload hx hb dL_law_909 (lv_at hl 1 rfl) ?_
  refine lv_if_ne (tgt := 926) hx hb dL_law_911 (by decide) (fun q9 => ?_) (fun q9 => ?_)
  · refine lv_goto (tgt := 2002) hx hb dL_law_926 (by decide) ?_
    exact k _ _ ⟨S, R, Y, G, Z, N, T9, M9, hs, f9, hI, hP, hD⟩ hS ls (lv_sub hl [2, 3, 4, 5, 6] rfl)
  · refine lv_aload_n hx hb dL_law_914 rfl (lv_at hl 5 rfl) ?_
    refine lv_iconst (v := (0 : Int32)) hx hb dL_law_915 (by decide) ?_
    refine va_lald hx hb hK hP 109 3 rfl rfl (by unfold vp_in; decide) dL_law_916 ?_
    refine lv_iload hx hb dL_law_917 (lv_at hl 0 rfl) ?_
    refine lv_i2l (v := b0.toInt64) hx hb dL_law_919 rfl ?_
    rw [show f9 (0 : Int32).toNatClampNeg = b0.toInt64 from hcm.2 q9]
    refine W.lcmp hx hb dL_law_920 ?_
    rw [lg_cmp_self]
    refine lv_if_eq (tgt := 926) hx hb dL_law_921 (by decide) (fun _ => ?_) (fun q => absurd rfl q)
    refine lv_goto (tgt := 2002) hx hb dL_law_926 (by decide) ?_
    exact k _ _ ⟨S, R, Y, G, Z, N, T9, M9, hs, f9, hI, hP, hD⟩ hS ls (lv_sub hl [2, 3, 4, 5, 6] rfl)
set_option maxHeartbeats 4000000 in
set_option maxRecDepth 100000 in
theorem law_c_read {p : Program} {e : Env} {s : State} {m : MethodId} {below : List Frame} {meth : Method} {c : Code} {Q : State → Prop} (l : Launch) (hfl : l.stackTraces = false) {dC : Nat → ClassId} {dI : Nat → Nat → Nat} {cI cZ cS cJ : ClassId} {b L : Nat} {xs : Nat → Int32} {aF aN aT aL aO aH : Nat → Nat} {ah : Nat → Nat → Nat} {aP aX aM : Nat → Nat} {ao : Nat} (C : LC dC dI cI cZ cS cJ p s m c b L xs) {i : Nat} (hi : i + 5 ≤ L) {cells slots : Nat} (hc : cells + 1 ≤ 601024) (hsl : slots + 6 ≤ 7293034) {H : Heap} {locs : List Loc} (I : LI dC dI cI cZ cS cJ aF aN aT aL aO aH ah aP aX aM ao s H) (hS : va_S (fun q : Nat => s.heap.size ≤ q) s.heap H locs) {ls : Array Slot} (hl : lv_has ls 9 [(0, .ref b), (1, .ref (aF 0)), (2, .ref (aM 0)), (3, .ref ao), (4, .int (nI i))])
    (k : ∀ (H : Heap) (locs : List Loc), LI dC dI cI cZ cS cJ aF aN aT aL aO aH ah aP aX aM ao s H → va_S (fun q : Nat => s.heap.size ≤ q) s.heap H locs → ∀ ls : Array Slot, lv_has ls 9 [(0, .ref b), (1, .ref (aF 0)), (2, .ref (aM 0)), (3, .ref ao), (4, .int (nI i))] → W p l e room_1 s m #[Value.ref b] below meth c H locs (cells + 1) (slots + 6) Q (F0 m 2002 ls [])) : W p l e room_1 s m #[Value.ref b] below meth c H locs cells slots Q (F0 m 955 ls []) := by
  obtain ⟨hx, hb, hml, hown, hts, hK, hN, hXW, hNC, hX, hbl, hL⟩ := C
  obtain ⟨S, R, Y, G, Z, N, T, M, hs, f, hI, hP, hD⟩ := I
  have hA : ∀ q : Nat, s.heap.size ≤ q → (fun q : Nat => s.heap.size ≤ q) q := fun _ h => h
  have hK3 := hK.sub (tys' := tyS cI cZ cS) [0, 1, 2] rfl
  obtain ⟨c0, r0, S9, Y9, G9, Z9, T9, b0, M9, e6, e7, hI, hAn⟩ := st_read hI Y
  refine lv_aload_n hx hb dL_law_955 rfl (lv_at hl 1 rfl) ?_
  refine lv_aload_n hx hb dL_law_956 rfl (lv_at hl 3 rfl) ?_
  have hF := va_free (wc := (wFm aF aN aT aL aO aH aP aX ++ (wSt cI aN S ++ (wLo cI aL Y ++ (wOu aO aN aL ++ (wHi cS aH ah G ++ (wZs cI ah Z ++ (wTx cI aX T))))))) ++ wOt cJ ao f) hD hS hA [0, 1, 2, 3, 4, 5, 6, 7, 8, 9, 10, 11, 23, 24, 25, 26, 27, 28, 29, 30, 31, 32, 33, 34, 35, 36, 37, 38, 39, 40, 41, 42, 43, 44, 45, 46, 47, 48, 49, 50, 51, 52, 53, 54, 55, 56, 57, 58, 59, 60, 61, 62, 63, 64, 65, 66, 67, 68, 69, 70, 71, 72, 73, 74, 75, 76, 77, 78, 79, 80, 81, 82, 83, 84, 85, 86, 87, 88, 89, 90, 91, 92, 93, 94, 98, 99, 109] rfl
  refine va_calli (vx_runSW (As := [.ref (aF 0), .ref ao]) (rest := []) ⟨hx, hb, hml, hown, hts⟩ (met_L_read l hfl dC dI cI cZ cS cJ aF aN aT aL aO aH ah aP aX ao f S Y G Z T s.heap.size H.size  (c0, r0, S9, Y9, G9, Z9, T9) e6 (fun c r q => by obtain ⟨u, hu⟩ := q; cases hu; exact an_ks hAn)) (vx_cwSW 2 hts gL_law_L_read rfl rfl rfl (by decide +kernel) ⟨(Nat.le_of_ble_eq_true rfl), (Nat.le_of_ble_eq_true rfl)⟩) (pLS (wc := (wFm aF aN aT aL aO aH aP aX ++ (wSt cI aN S ++ (wLo cI aL Y ++ (wOu aO aN aL ++ (wHi cS aH ah G ++ (wZs cI ah Z ++ (wTx cI aX T))))))) ++ wOt cJ ao f) hK hP hD hN hXW hNC hS [0, 1, 2, 3, 4, 5, 6, 7, 8, 9, 10, 11, 23, 24, 25, 26, 27, 28, 29, 30, 31, 32, 33, 34, 35, 36, 37, 38, 39, 40, 41, 42, 43, 44, 45, 46, 47, 48, 49, 50, 51, 52, 53, 54, 55, 56, 57, 58, 59, 60, 61, 62, 63, 64, 65, 66, 67, 68, 69, 70, 71, 72, 73, 74, 75, 76, 77, 78, 79, 80, 81, 82, 83, 84, 85, 86, 87, 88, 89, 90, 91, 92, 93, 94, 98, 99, 109] rfl (by decide)) rfl rfl hl.1 rfl (lv_room (Nat.le_of_ble_eq_true rfl)) dL_law_957 ⟨hc, hsl⟩) hS (fun q _ h => hF q h) hF (fun k9 u t H1 locs ht hvm hw hB hz1 hk1 hS => ?_)
  obtain ⟨u1, f9⟩ := u
  obtain ⟨c1, r1, hcr, hwr⟩ := hw
  try dsimp only at hcr hwr
  cases hcr
  have hcm := an_wrp (by decide) (by decide) (by decide) hwr hAn
  rw [ht] at hB
  have hB : va_P (dC, dI) vwCl ((wFm aF aN aT aL aO aH aP aX ++ (wSt cI aN S9 ++ (wLo cI aL Y9 ++ (wOu aO aN aL ++ (wHi cS aH ah G9 ++ (wZs cI ah Z9 ++ (wTx cI aX T9))))))) ++ wOt cJ ao f9) H1 := hB
  have hP := wrk2 (w2 := wFm aF aN aT aL aO aH aP aX ++ (wSt cI aN S9 ++ (wSt cI aT R ++ (wLo cI aL Y9 ++ (wOu aO aN aL ++ (wHi cS aH ah G9 ++ (wZs cI ah Z9 ++ (wSn cI cZ aP N ++ (wTx cI aX T9 ++ (wMo cI aM M hs ++ (wOt cJ ao f9))))))))))) (wr := wSt cI aT R ++ (wSn cI cZ aP N ++ (wMo cI aM M hs))) hP hD [0, 1, 2, 3, 4, 5, 6, 7, 8, 9, 10, 11, 23, 24, 25, 26, 27, 28, 29, 30, 31, 32, 33, 34, 35, 36, 37, 38, 39, 40, 41, 42, 43, 44, 45, 46, 47, 48, 49, 50, 51, 52, 53, 54, 55, 56, 57, 58, 59, 60, 61, 62, 63, 64, 65, 66, 67, 68, 69, 70, 71, 72, 73, 74, 75, 76, 77, 78, 79, 80, 81, 82, 83, 84, 85, 86, 87, 88, 89, 90, 91, 92, 93, 94, 98, 99, 109] [12, 13, 14, 15, 16, 17, 18, 19, 20, 21, 22, 95, 96, 97, 100, 101, 102, 103, 104, 105, 106, 107, 108] rfl rfl (by decide) hk1 hB [23, 24, 25, 26, 27, 28, 29, 30, 31, 32, 33, 34, 0, 1, 2, 3, 4, 5, 6, 7, 8, 9, 10, 35, 36, 37, 38, 39, 40, 41, 42, 43, 44, 45, 46, 47, 48, 49, 50, 51, 52, 53, 54, 55, 56, 57, 58, 59, 60, 61, 62, 63, 64, 65, 66, 67, 68, 69, 70, 71, 72, 73, 74, 75, 76, 77, 78, 79, 80, 81, 82, 83, 84, 85, 86, 87, 88, 89, 90, 91, 92, 93, 94, 95, 96, 97, 98, 99, 100, 101, 102, 103, 104, 105, 106, 11, 12, 13, 107, 108, 14, 15, 16, 17, 18, 19, 20, 21, 22, 109] rfl
  have hD := D_addr (w1 := wFm aF aN aT aL aO aH aP aX ++ (wSt cI aN S9 ++ (wSt cI aT R ++ (wLo cI aL Y9 ++ (wOu aO aN aL ++ (wHi cS aH ah G9 ++ (wZs cI ah Z9 ++ (wSn cI cZ aP N ++ (wTx cI aX T9 ++ (wMo cI aM M hs ++ (wOt cJ ao f9))))))))))) hD rfl
  refine lv_istore (lv' := [(5, .int k9), (0, .ref b), (1, .ref (aF 0)), (2, .ref (aM 0)), (3, .ref ao), (4, .int (nI i))]) hx hb dL_law_960 hl (by decide) rfl (fun ls hl => ?_)
  refine lv_aload_n hx hb dL_law_962 rfl (lv_at hl 3 rfl) ?_
  have hF := va_free (wc := wMo cI aM M hs) hD hS hA [100, 101, 102, 103, 104, 105, 106, 107, 108] rfl
  refine va_calli (va_runV (As := []) (rest := []) ⟨hx, hb, hml, hown, hts⟩ (met_X7_read l dC dI cI cZ cS aM M hs H1.size  _ e7) (cwV 0 hts gL_law_X7_read rfl rfl rfl (by decide +kernel) ⟨(Nat.le_of_ble_eq_true rfl), (Nat.le_of_ble_eq_true rfl)⟩) (pV (wc := wMo cI aM M hs) (ci := 7) (q0 := 100) hK3 hP hD hN [100, 101, 102, 103, 104, 105, 106, 107, 108] rfl (by decide) rfl rfl) rfl rfl hl.1 rfl (lv_room (Nat.le_of_ble_eq_true rfl)) dL_law_963 ⟨hc, hsl⟩) hS (fun q _ h => hF q h) hF (fun b9 u t H2 locs ht hvm hw hB hz1 hk1 hS => ?_)
  try dsimp only at hw hB
  cases hw
  rw [ht] at hB
  have hP := wrk2 (w2 := wFm aF aN aT aL aO aH aP aX ++ (wSt cI aN S9 ++ (wSt cI aT R ++ (wLo cI aL Y9 ++ (wOu aO aN aL ++ (wHi cS aH ah G9 ++ (wZs cI ah Z9 ++ (wSn cI cZ aP N ++ (wTx cI aX T9 ++ (wMo cI aM M9 hs ++ (wOt cJ ao f9))))))))))) (wr := wFm aF aN aT aL aO aH aP aX ++ (wSt cI aN S9 ++ (wSt cI aT R ++ (wLo cI aL Y9 ++ (wOu aO aN aL ++ (wHi cS aH ah G9 ++ (wZs cI ah Z9 ++ (wSn cI cZ aP N ++ (wTx cI aX T9 ++ (wOt cJ ao f9)))))))))) hP hD [100, 101, 102, 103, 104, 105, 106, 107, 108] [0, 1, 2, 3, 4, 5, 6, 7, 8, 9, 10, 11, 12, 13, 14, 15, 16, 17, 18, 19, 20, 21, 22, 23, 24, 25, 26, 27, 28, 29, 30, 31, 32, 33, 34, 35, 36, 37, 38, 39, 40, 41, 42, 43, 44, 45, 46, 47, 48, 49, 50, 51, 52, 53, 54, 55, 56, 57, 58, 59, 60, 61, 62, 63, 64, 65, 66, 67, 68, 69, 70, 71, 72, 73, 74, 75, 76, 77, 78, 79, 80, 81, 82, 83, 84, 85, 86, 87, 88, 89, 90, 91, 92, 93, 94, 95, 96, 97, 98, 99, 109] rfl rfl (by decide) hk1 hB [0, 1, 2, 3, 4, 5, 6, 7, 8, 9, 10, 11, 12, 13, 14, 15, 16, 17, 18, 19, 20, 21, 22, 23, 24, 25, 26, 27, 28, 29, 30, 31, 32, 33, 34, 35, 36, 37, 38, 39, 40, 41, 42, 43, 44, 45, 46, 47, 48, 49, 50, 51, 52, 53, 54, 55, 56, 57, 58, 59, 60, 61, 62, 63, 64, 65, 66, 67, 68, 69, 70, 71, 72, 73, 74, 75, 76, 77, 78, 79, 80, 81, 82, 83, 84, 85, 86, 87, 88, 89, 90, 91, 92, 93, 94, 95, 96, 97, 98, 99, 101, 102, 103, 104, 105, 106, 107, 108, 109, 100] rfl
  have hD := D_addr (w1 := wFm aF aN aT aL aO aH aP aX ++ (wSt cI aN S9 ++ (wSt cI aT R ++ (wLo cI aL Y9 ++ (wOu aO aN aL ++ (wHi cS aH ah G9 ++ (wZs cI ah Z9 ++ (wSn cI cZ aP N ++ (wTx cI aX T9 ++ (wMo cI aM M9 hs ++ (wOt cJ ao f9))))))))))) hD rfl
  refine lv_istore (lv' := [(6, .int b0), (5, .int k9), (0, .ref b), (1, .ref (aF 0)), (2, .ref (aM 0)), (3, .ref ao), (4, .int (nI i))]) hx hb dL_law_966 hl (by decide) rfl (fun ls hl => ?_)
  refine lv_aload_n hx hb dL_law_968 rfl (lv_at hl 4 rfl) ?_
  refine va_calli (va_runV (As := []) (rest := []) ⟨hx, hb, hml, hown, hts⟩ (met_X7_thrown l dC dI cI cZ cS aM M9 hs H2.size) (cwV 0 hts gL_law_X7_thrown rfl rfl rfl (by decide +kernel) ⟨(Nat.le_of_ble_eq_true rfl), (Nat.le_of_ble_eq_true rfl)⟩) (pV (wc := wMo cI aM M9 hs) (ci := 7) (q0 := 100) hK3 hP hD hN [100, 101, 102, 103, 104, 105, 106, 107, 108] rfl (by decide) rfl rfl) rfl rfl hl.1 rfl (lv_room (Nat.le_of_ble_eq_true rfl)) dL_law_969 ⟨hc, hsl⟩) hS (fun q _ h => a0_in hS hA q h) (a0_in hS hA) (fun r9 u t H3 locs ht hvm hw hB hz1 hk1 hS => ?_)
  clear hB
  have hP := rdk hP hk1
  have hw : r9 = M9 7 0 := hw
  subst hw
  refine lv_iload hx hb dL_law_972 (lv_at hl 1 rfl) ?_
  refine lv_icmp_eq (tgt := 979) hx hb dL_law_974 (by decide) (fun _ => ?_) (fun q => absurd hcm.1.symm q)
  refine lv_iload hx hb dL_law_979 (lv_at hl 1 rfl) ?_
  refine lv_if_ne (tgt := 996) hx hb dL_law_981 (by decide) (fun q9 => ?_) (fun q9 => ?_)
  · refine lv_goto (tgt := 2002) hx hb dL_law_996 (by decide) ?_
    exact k _ _ ⟨S9, R, Y9, G9, Z9, N, T9, M9, hs, f9, hI, hP, hD⟩ hS ls (lv_sub hl [2, 3, 4, 5, 6] rfl)
  · refine lv_aload_n hx hb dL_law_984 rfl (lv_at hl 5 rfl) ?_
    refine lv_iconst (v := (0 : Int32)) hx hb dL_law_985 (by decide) ?_
    refine va_lald hx hb hK hP 109 3 rfl rfl (by unfold vp_in; decide) dL_law_986 ?_
    refine lv_iload hx hb dL_law_987 (lv_at hl 0 rfl) ?_
    refine lv_i2l (v := b0.toInt64) hx hb dL_law_989 rfl ?_
    rw [show f9 (0 : Int32).toNatClampNeg = b0.toInt64 from hcm.2 q9]
    refine W.lcmp hx hb dL_law_990 ?_
    rw [lg_cmp_self]
    refine lv_if_eq (tgt := 996) hx hb dL_law_991 (by decide) (fun _ => ?_) (fun q => absurd rfl q)
    refine lv_goto (tgt := 2002) hx hb dL_law_996 (by decide) ?_
    exact k _ _ ⟨S9, R, Y9, G9, Z9, N, T9, M9, hs, f9, hI, hP, hD⟩ hS ls (lv_sub hl [2, 3, 4, 5, 6] rfl)
