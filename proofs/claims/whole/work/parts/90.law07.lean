set_option maxHeartbeats 4000000 in
set_option maxRecDepth 100000 in
theorem law_c_best {p : Program} {e : Env} {s : State} {m : MethodId} {below : List Frame} {meth : Method} {c : Code} {Q : State → Prop} (l : Launch) (hfl : l.stackTraces = false) {dC : Nat → ClassId} {dI : Nat → Nat → Nat} {cI cZ cS cJ : ClassId} {b L : Nat} {xs : Nat → Int32} {aF aN aT aL aO aH : Nat → Nat} {ah : Nat → Nat → Nat} {aP aX aM : Nat → Nat} {ao : Nat} (C : LC dC dI cI cZ cS cJ p s m c b L xs) {i : Nat} (hi : i + 5 ≤ L) {cells slots : Nat} (hc : cells + 1 ≤ 601024) (hsl : slots + 6 ≤ 7293034) {H : Heap} {locs : List Loc} (I : LI dC dI cI cZ cS cJ aF aN aT aL aO aH ah aP aX aM ao s H) (hS : va_S (fun q : Nat => s.heap.size ≤ q) s.heap H locs) {ls : Array Slot} (hl : lv_has ls 9 [(0, .ref b), (1, .ref (aF 0)), (2, .ref (aM 0)), (3, .ref ao), (4, .int (nI i))])
    (k : ∀ (H : Heap) (locs : List Loc), LI dC dI cI cZ cS cJ aF aN aT aL aO aH ah aP aX aM ao s H → va_S (fun q : Nat => s.heap.size ≤ q) s.heap H locs → ∀ ls : Array Slot, lv_has ls 9 [(0, .ref b), (1, .ref (aF 0)), (2, .ref (aM 0)), (3, .ref ao), (4, .int (nI i))] → W p l e room_1 s m #[Value.ref b] below meth c H locs (cells + 1) (slots + 6) Q (F0 m 2002 ls [])) : W p l e room_1 s m #[Value.ref b] below meth c H locs cells slots Q (F0 m 1755 ls []) := by
  obtain ⟨hx, hb, hml, hown, hts, hK, hN, hXW, hNC, hX, hbl, hL⟩ := C
  obtain ⟨S, R, Y, G, Z, N, T, M, hs, f, hI, hP, hD⟩ := I
  have hA : ∀ q : Nat, s.heap.size ≤ q → (fun q : Nat => s.heap.size ≤ q) q := fun _ h => h
  have hK3 := hK.sub (tys' := tyS cI cZ cS) [0, 1, 2] rfl
  obtain ⟨c0, r0, Y9, b0, M9, e6, e7, hI, hAn⟩ := st_best hI Y (xs (i + 1)) (xs (i + 2))
  refine lv_aload_n hx hb dL_law_1755 rfl (lv_at hl 1 rfl) ?_
  refine law_rd (k := 1) hx hb hX hbl hS hi hL (by decide) (by decide) (lv_at hl 0 rfl) (lv_at hl 4 rfl) dL_law_1756 dL_law_1757 dL_law_1759 dL_law_1760 dL_law_1761 ?_
  refine law_rd (k := 2) hx hb hX hbl hS hi hL (by decide) (by decide) (lv_at hl 0 rfl) (lv_at hl 4 rfl) dL_law_1762 dL_law_1763 dL_law_1765 dL_law_1766 dL_law_1767 ?_
  refine lv_aload_n hx hb dL_law_1768 rfl (lv_at hl 3 rfl) ?_
  have hF := va_free (wc := (wFm aF aN aT aL aO aH aP aX ++ (wSt cI aN S ++ (wLo cI aL Y ++ (wOu aO aN aL)))) ++ wOt cJ ao f) hD hS hA [0, 1, 2, 3, 4, 5, 6, 7, 8, 9, 10, 11, 23, 24, 25, 26, 109] rfl
  refine va_calli (vx_runSW (As := [.ref (aF 0), .int (xs (i + 1)), .int (xs (i + 2)), .ref ao]) (rest := []) ⟨hx, hb, hml, hown, hts⟩ (met_L_best l hfl dC dI cI cZ cS cJ aF aN aT aL aO aH ah aP aX ao f S Y s.heap.size H.size (xs (i + 1)) (xs (i + 2)) (c0, r0, S, Y9) e6 (fun c r q => by obtain ⟨u, hu⟩ := q; cases hu; exact an_ks hAn)) (vx_cwSW 4 hts gL_law_L_best rfl rfl rfl (by decide +kernel) ⟨(Nat.le_of_ble_eq_true rfl), (Nat.le_of_ble_eq_true rfl)⟩) (pLS (wc := (wFm aF aN aT aL aO aH aP aX ++ (wSt cI aN S ++ (wLo cI aL Y ++ (wOu aO aN aL)))) ++ wOt cJ ao f) hK hP hD hN hXW hNC hS [0, 1, 2, 3, 4, 5, 6, 7, 8, 9, 10, 11, 23, 24, 25, 26, 109] rfl (by decide)) rfl rfl hl.1 rfl (lv_room (Nat.le_of_ble_eq_true rfl)) dL_law_1769 ⟨hc, hsl⟩) hS (fun q _ h => hF q h) hF (fun k9 u t H1 locs ht hvm hw hB hz1 hk1 hS => ?_)
  obtain ⟨u1, f9⟩ := u
  obtain ⟨c1, r1, hcr, hwr⟩ := hw
  try dsimp only at hcr hwr
  cases hcr
  have hcm := an_wrp (by decide) (by decide) (by decide) hwr hAn
  rw [ht] at hB
  have hB : va_P (dC, dI) vwCl ((wFm aF aN aT aL aO aH aP aX ++ (wSt cI aN S ++ (wLo cI aL Y9 ++ (wOu aO aN aL)))) ++ wOt cJ ao f9) H1 := hB
  have hP := wrk2 (w2 := wFm aF aN aT aL aO aH aP aX ++ (wSt cI aN S ++ (wSt cI aT R ++ (wLo cI aL Y9 ++ (wOu aO aN aL ++ (wHi cS aH ah G ++ (wZs cI ah Z ++ (wSn cI cZ aP N ++ (wTx cI aX T ++ (wMo cI aM M hs ++ (wOt cJ ao f9))))))))))) (wr := wSt cI aT R ++ (wHi cS aH ah G ++ (wZs cI ah Z ++ (wSn cI cZ aP N ++ (wTx cI aX T ++ (wMo cI aM M hs)))))) hP hD [0, 1, 2, 3, 4, 5, 6, 7, 8, 9, 10, 11, 23, 24, 25, 26, 109] [12, 13, 14, 15, 16, 17, 18, 19, 20, 21, 22, 27, 28, 29, 30, 31, 32, 33, 34, 35, 36, 37, 38, 39, 40, 41, 42, 43, 44, 45, 46, 47, 48, 49, 50, 51, 52, 53, 54, 55, 56, 57, 58, 59, 60, 61, 62, 63, 64, 65, 66, 67, 68, 69, 70, 71, 72, 73, 74, 75, 76, 77, 78, 79, 80, 81, 82, 83, 84, 85, 86, 87, 88, 89, 90, 91, 92, 93, 94, 95, 96, 97, 98, 99, 100, 101, 102, 103, 104, 105, 106, 107, 108] rfl rfl (by decide) hk1 hB [93, 94, 95, 96, 97, 98, 99, 100, 101, 102, 103, 104, 0, 1, 2, 3, 4, 5, 6, 7, 8, 9, 10, 105, 106, 107, 108, 11, 12, 13, 14, 15, 16, 17, 18, 19, 20, 21, 22, 23, 24, 25, 26, 27, 28, 29, 30, 31, 32, 33, 34, 35, 36, 37, 38, 39, 40, 41, 42, 43, 44, 45, 46, 47, 48, 49, 50, 51, 52, 53, 54, 55, 56, 57, 58, 59, 60, 61, 62, 63, 64, 65, 66, 67, 68, 69, 70, 71, 72, 73, 74, 75, 76, 77, 78, 79, 80, 81, 82, 83, 84, 85, 86, 87, 88, 89, 90, 91, 92, 109] rfl
  have hD := D_addr (w1 := wFm aF aN aT aL aO aH aP aX ++ (wSt cI aN S ++ (wSt cI aT R ++ (wLo cI aL Y9 ++ (wOu aO aN aL ++ (wHi cS aH ah G ++ (wZs cI ah Z ++ (wSn cI cZ aP N ++ (wTx cI aX T ++ (wMo cI aM M hs ++ (wOt cJ ao f9))))))))))) hD rfl
  refine lv_istore (lv' := [(5, .int k9), (0, .ref b), (1, .ref (aF 0)), (2, .ref (aM 0)), (3, .ref ao), (4, .int (nI i))]) hx hb dL_law_1772 hl (by decide) rfl (fun ls hl => ?_)
  refine lv_aload_n hx hb dL_law_1774 rfl (lv_at hl 3 rfl) ?_
  refine law_rd (k := 1) hx hb hX hbl hS hi hL (by decide) (by decide) (lv_at hl 1 rfl) (lv_at hl 5 rfl) dL_law_1775 dL_law_1776 dL_law_1778 dL_law_1779 dL_law_1780 ?_
  refine law_rd (k := 2) hx hb hX hbl hS hi hL (by decide) (by decide) (lv_at hl 1 rfl) (lv_at hl 5 rfl) dL_law_1781 dL_law_1782 dL_law_1784 dL_law_1785 dL_law_1786 ?_
  have hF := va_free (wc := wMo cI aM M hs) hD hS hA [100, 101, 102, 103, 104, 105, 106, 107, 108] rfl
  refine va_calli (va_runV (As := [.int (xs (i + 1)), .int (xs (i + 2))]) (rest := []) ⟨hx, hb, hml, hown, hts⟩ (met_X7_best l dC dI cI cZ cS aM M hs H1.size (xs (i + 1)) (xs (i + 2)) _ e7) (cwV 2 hts gL_law_X7_best rfl rfl rfl (by decide +kernel) ⟨(Nat.le_of_ble_eq_true rfl), (Nat.le_of_ble_eq_true rfl)⟩) (pV (wc := wMo cI aM M hs) (ci := 7) (q0 := 100) hK3 hP hD hN [100, 101, 102, 103, 104, 105, 106, 107, 108] rfl (by decide) rfl rfl) rfl rfl hl.1 rfl (lv_room (Nat.le_of_ble_eq_true rfl)) dL_law_1787 ⟨hc, hsl⟩) hS (fun q _ h => hF q h) hF (fun b9 u t H2 locs ht hvm hw hB hz1 hk1 hS => ?_)
  try dsimp only at hw hB
  cases hw
  rw [ht] at hB
  have hP := wrk2 (w2 := wFm aF aN aT aL aO aH aP aX ++ (wSt cI aN S ++ (wSt cI aT R ++ (wLo cI aL Y9 ++ (wOu aO aN aL ++ (wHi cS aH ah G ++ (wZs cI ah Z ++ (wSn cI cZ aP N ++ (wTx cI aX T ++ (wMo cI aM M9 hs ++ (wOt cJ ao f9))))))))))) (wr := wFm aF aN aT aL aO aH aP aX ++ (wSt cI aN S ++ (wSt cI aT R ++ (wLo cI aL Y9 ++ (wOu aO aN aL ++ (wHi cS aH ah G ++ (wZs cI ah Z ++ (wSn cI cZ aP N ++ (wTx cI aX T ++ (wOt cJ ao f9)))))))))) hP hD [100, 101, 102, 103, 104, 105, 106, 107, 108] [0, 1, 2, 3, 4, 5, 6, 7, 8, 9, 10, 11, 12, 13, 14, 15, 16, 17, 18, 19, 20, 21, 22, 23, 24, 25, 26, 27, 28, 29, 30, 31, 32, 33, 34, 35, 36, 37, 38, 39, 40, 41, 42, 43, 44, 45, 46, 47, 48, 49, 50, 51, 52, 53, 54, 55, 56, 57, 58, 59, 60, 61, 62, 63, 64, 65, 66, 67, 68, 69, 70, 71, 72, 73, 74, 75, 76, 77, 78, 79, 80, 81, 82, 83, 84, 85, 86, 87, 88, 89, 90, 91, 92, 93, 94, 95, 96, 97, 98, 99, 109] rfl rfl (by decide) hk1 hB [0, 1, 2, 3, 4, 5, 6, 7, 8, 9, 10, 11, 12, 13, 14, 15, 16, 17, 18, 19, 20, 21, 22, 23, 24, 25, 26, 27, 28, 29, 30, 31, 32, 33, 34, 35, 36, 37, 38, 39, 40, 41, 42, 43, 44, 45, 46, 47, 48, 49, 50, 51, 52, 53, 54, 55, 56, 57, 58, 59, 60, 61, 62, 63, 64, 65, 66, 67, 68, 69, 70, 71, 72, 73, 74, 75, 76, 77, 78, 79, 80, 81, 82, 83, 84, 85, 86, 87, 88, 89, 90, 91, 92, 93, 94, 95, 96, 97, 98, 99, 101, 102, 103, 104, 105, 106, 107, 108, 109, 100] rfl
  have hD := D_addr (w1 := wFm aF aN aT aL aO aH aP aX ++ (wSt cI aN S ++ (wSt cI aT R ++ (wLo cI aL Y9 ++ (wOu aO aN aL ++ (wHi cS aH ah G ++ (wZs cI ah Z ++ (wSn cI cZ aP N ++ (wTx cI aX T ++ (wMo cI aM M9 hs ++ (wOt cJ ao f9))))))))))) hD rfl
  refine lv_istore (lv' := [(6, .int b0), (5, .int k9), (0, .ref b), (1, .ref (aF 0)), (2, .ref (aM 0)), (3, .ref ao), (4, .int (nI i))]) hx hb dL_law_1790 hl (by decide) rfl (fun ls hl => ?_)
  refine lv_aload_n hx hb dL_law_1792 rfl (lv_at hl 4 rfl) ?_
  refine va_calli (va_runV (As := []) (rest := []) ⟨hx, hb, hml, hown, hts⟩ (met_X7_thrown l dC dI cI cZ cS aM M9 hs H2.size) (cwV 0 hts gL_law_X7_thrown rfl rfl rfl (by decide +kernel) ⟨(Nat.le_of_ble_eq_true rfl), (Nat.le_of_ble_eq_true rfl)⟩) (pV (wc := wMo cI aM M9 hs) (ci := 7) (q0 := 100) hK3 hP hD hN [100, 101, 102, 103, 104, 105, 106, 107, 108] rfl (by decide) rfl rfl) rfl rfl hl.1 rfl (lv_room (Nat.le_of_ble_eq_true rfl)) dL_law_1793 ⟨hc, hsl⟩) hS (fun q _ h => a0_in hS hA q h) (a0_in hS hA) (fun r9 u t H3 locs ht hvm hw hB hz1 hk1 hS => ?_)
  clear hB
  have hP := rdk hP hk1
  have hw : r9 = M9 7 0 := hw
  subst hw
  refine lv_iload hx hb dL_law_1796 (lv_at hl 1 rfl) ?_
  refine lv_icmp_eq (tgt := 1803) hx hb dL_law_1798 (by decide) (fun _ => ?_) (fun q => absurd hcm.1.symm q)
  refine lv_iload hx hb dL_law_1803 (lv_at hl 1 rfl) ?_
  refine lv_if_ne (tgt := 1820) hx hb dL_law_1805 (by decide) (fun q9 => ?_) (fun q9 => ?_)
  · refine lv_goto (tgt := 2002) hx hb dL_law_1820 (by decide) ?_
    exact k _ _ ⟨S, R, Y9, G, Z, N, T, M9, hs, f9, hI, hP, hD⟩ hS ls (lv_sub hl [2, 3, 4, 5, 6] rfl)
  · refine lv_aload_n hx hb dL_law_1808 rfl (lv_at hl 5 rfl) ?_
    refine lv_iconst (v := (0 : Int32)) hx hb dL_law_1809 (by decide) ?_
    refine va_lald hx hb hK hP 109 3 rfl rfl (by unfold vp_in; decide) dL_law_1810 ?_
    refine lv_iload hx hb dL_law_1811 (lv_at hl 0 rfl) ?_
    refine lv_i2l (v := b0.toInt64) hx hb dL_law_1813 rfl ?_
    rw [show f9 (0 : Int32).toNatClampNeg = b0.toInt64 from hcm.2 q9]
    refine W.lcmp hx hb dL_law_1814 ?_
    rw [lg_cmp_self]
    refine lv_if_eq (tgt := 1820) hx hb dL_law_1815 (by decide) (fun _ => ?_) (fun q => absurd rfl q)
    refine lv_goto (tgt := 2002) hx hb dL_law_1820 (by decide) ?_
    exact k _ _ ⟨S, R, Y9, G, Z, N, T, M9, hs, f9, hI, hP, hD⟩ hS ls (lv_sub hl [2, 3, 4, 5, 6] rfl)
set_option maxHeartbeats 4000000 in
set_option maxRecDepth 100000 in
theorem law_c_gain {p : Program} {e : Env} {s : State} {m : MethodId} {below : List Frame} {meth : Method} {c : Code} {Q : State → Prop} (l : Launch) (hfl : l.stackTraces = false) {dC : Nat → ClassId} {dI : Nat → Nat → Nat} {cI cZ cS cJ : ClassId} {b L : Nat} {xs : Nat → Int32} {aF aN aT aL aO aH : Nat → Nat} {ah : Nat → Nat → Nat} {aP aX aM : Nat → Nat} {ao : Nat} (C : LC dC dI cI cZ cS cJ p s m c b L xs) {i : Nat} (hi : i + 5 ≤ L) {cells slots : Nat} (hc : cells + 1 ≤ 601024) (hsl : slots + 6 ≤ 7293034) {H : Heap} {locs : List Loc} (I : LI dC dI cI cZ cS cJ aF aN aT aL aO aH ah aP aX aM ao s H) (hS : va_S (fun q : Nat => s.heap.size ≤ q) s.heap H locs) {ls : Array Slot} (hl : lv_has ls 9 [(0, .ref b), (1, .ref (aF 0)), (2, .ref (aM 0)), (3, .ref ao), (4, .int (nI i))])
    (k : ∀ (H : Heap) (locs : List Loc), LI dC dI cI cZ cS cJ aF aN aT aL aO aH ah aP aX aM ao s H → va_S (fun q : Nat => s.heap.size ≤ q) s.heap H locs → ∀ ls : Array Slot, lv_has ls 9 [(0, .ref b), (1, .ref (aF 0)), (2, .ref (aM 0)), (3, .ref ao), (4, .int (nI i))] → W p l e room_1 s m #[Value.ref b] below meth c H locs (cells + 1) (slots + 6) Q (F0 m 2002 ls [])) : W p l e room_1 s m #[Value.ref b] below meth c H locs cells slots Q (F0 m 1823 ls []) := by
  obtain ⟨hx, hb, hml, hown, hts, hK, hN, hXW, hNC, hX, hbl, hL⟩ := C
  obtain ⟨S, R, Y, G, Z, N, T, M, hs, f, hI, hP, hD⟩ := I
  have hA : ∀ q : Nat, s.heap.size ≤ q → (fun q : Nat => s.heap.size ≤ q) q := fun _ h => h
  have hK3 := hK.sub (tys' := tyS cI cZ cS) [0, 1, 2] rfl
  obtain ⟨c0, r0, Y9, b0, M9, e6, e7, hI, hAn⟩ := st_gain hI Y (xs (i + 1)) (xs (i + 2))
  refine lv_aload_n hx hb dL_law_1823 rfl (lv_at hl 1 rfl) ?_
  refine law_rd (k := 1) hx hb hX hbl hS hi hL (by decide) (by decide) (lv_at hl 0 rfl) (lv_at hl 4 rfl) dL_law_1824 dL_law_1825 dL_law_1827 dL_law_1828 dL_law_1829 ?_
  refine law_rd (k := 2) hx hb hX hbl hS hi hL (by decide) (by decide) (lv_at hl 0 rfl) (lv_at hl 4 rfl) dL_law_1830 dL_law_1831 dL_law_1833 dL_law_1834 dL_law_1835 ?_
  refine lv_aload_n hx hb dL_law_1836 rfl (lv_at hl 3 rfl) ?_
  have hF := va_free (wc := (wFm aF aN aT aL aO aH aP aX ++ (wSt cI aN S ++ (wLo cI aL Y ++ (wOu aO aN aL)))) ++ wOt cJ ao f) hD hS hA [0, 1, 2, 3, 4, 5, 6, 7, 8, 9, 10, 11, 23, 24, 25, 26, 109] rfl
  refine va_calli (vx_runSW (As := [.ref (aF 0), .int (xs (i + 1)), .int (xs (i + 2)), .ref ao]) (rest := []) ⟨hx, hb, hml, hown, hts⟩ (met_L_gain l hfl dC dI cI cZ cS cJ aF aN aT aL aO aH ah aP aX ao f S Y s.heap.size H.size (xs (i + 1)) (xs (i + 2)) (c0, r0, S, Y9) e6 (fun c r q => by obtain ⟨u, hu⟩ := q; cases hu; exact an_ks hAn)) (vx_cwSW 4 hts gL_law_L_gain rfl rfl rfl (by decide +kernel) ⟨(Nat.le_of_ble_eq_true rfl), (Nat.le_of_ble_eq_true rfl)⟩) (pLS (wc := (wFm aF aN aT aL aO aH aP aX ++ (wSt cI aN S ++ (wLo cI aL Y ++ (wOu aO aN aL)))) ++ wOt cJ ao f) hK hP hD hN hXW hNC hS [0, 1, 2, 3, 4, 5, 6, 7, 8, 9, 10, 11, 23, 24, 25, 26, 109] rfl (by decide)) rfl rfl hl.1 rfl (lv_room (Nat.le_of_ble_eq_true rfl)) dL_law_1837 ⟨hc, hsl⟩) hS (fun q _ h => hF q h) hF (fun k9 u t H1 locs ht hvm hw hB hz1 hk1 hS => ?_)
  obtain ⟨u1, f9⟩ := u
  obtain ⟨c1, r1, hcr, hwr⟩ := hw
  try dsimp only at hcr hwr
  cases hcr
  have hcm := an_wrp (by decide) (by decide) (by decide) hwr hAn
  rw [ht] at hB
  have hB : va_P (dC, dI) vwCl ((wFm aF aN aT aL aO aH aP aX ++ (wSt cI aN S ++ (wLo cI aL Y9 ++ (wOu aO aN aL)))) ++ wOt cJ ao f9) H1 := hB
  have hP := wrk2 (w2 := wFm aF aN aT aL aO aH aP aX ++ (wSt cI aN S ++ (wSt cI aT R ++ (wLo cI aL Y9 ++ (wOu aO aN aL ++ (wHi cS aH ah G ++ (wZs cI ah Z ++ (wSn cI cZ aP N ++ (wTx cI aX T ++ (wMo cI aM M hs ++ (wOt cJ ao f9))))))))))) (wr := wSt cI aT R ++ (wHi cS aH ah G ++ (wZs cI ah Z ++ (wSn cI cZ aP N ++ (wTx cI aX T ++ (wMo cI aM M hs)))))) hP hD [0, 1, 2, 3, 4, 5, 6, 7, 8, 9, 10, 11, 23, 24, 25, 26, 109] [12, 13, 14, 15, 16, 17, 18, 19, 20, 21, 22, 27, 28, 29, 30, 31, 32, 33, 34, 35, 36, 37, 38, 39, 40, 41, 42, 43, 44, 45, 46, 47, 48, 49, 50, 51, 52, 53, 54, 55, 56, 57, 58, 59, 60, 61, 62, 63, 64, 65, 66, 67, 68, 69, 70, 71, 72, 73, 74, 75, 76, 77, 78, 79, 80, 81, 82, 83, 84, 85, 86, 87, 88, 89, 90, 91, 92, 93, 94, 95, 96, 97, 98, 99, 100, 101, 102, 103, 104, 105, 106, 107, 108] rfl rfl (by decide) hk1 hB [93, 94, 95, 96, 97, 98, 99, 100, 101, 102, 103, 104, 0, 1, 2, 3, 4, 5, 6, 7, 8, 9, 10, 105, 106, 107, 108, 11, 12, 13, 14, 15, 16, 17, 18, 19, 20, 21, 22, 23, 24, 25, 26, 27, 28, 29, 30, 31, 32, 33, 34, 35, 36, 37, 38, 39, 40, 41, 42, 43, 44, 45, 46, 47, 48, 49, 50, 51, 52, 53, 54, 55, 56, 57, 58, 59, 60, 61, 62, 63, 64, 65, 66, 67, 68, 69, 70, 71, 72, 73, 74, 75, 76, 77, 78, 79, 80, 81, 82, 83, 84, 85, 86, 87, 88, 89, 90, 91, 92, 109] rfl
  have hD := D_addr (w1 := wFm aF aN aT aL aO aH aP aX ++ (wSt cI aN S ++ (wSt cI aT R ++ (wLo cI aL Y9 ++ (wOu aO aN aL ++ (wHi cS aH ah G ++ (wZs cI ah Z ++ (wSn cI cZ aP N ++ (wTx cI aX T ++ (wMo cI aM M hs ++ (wOt cJ ao f9))))))))))) hD rfl
  refine lv_istore (lv' := [(5, .int k9), (0, .ref b), (1, .ref (aF 0)), (2, .ref (aM 0)), (3, .ref ao), (4, .int (nI i))]) hx hb dL_law_1840 hl (by decide) rfl (fun ls hl => ?_)
  refine lv_aload_n hx hb dL_law_1842 rfl (lv_at hl 3 rfl) ?_
  refine law_rd (k := 1) hx hb hX hbl hS hi hL (by decide) (by decide) (lv_at hl 1 rfl) (lv_at hl 5 rfl) dL_law_1843 dL_law_1844 dL_law_1846 dL_law_1847 dL_law_1848 ?_
  refine law_rd (k := 2) hx hb hX hbl hS hi hL (by decide) (by decide) (lv_at hl 1 rfl) (lv_at hl 5 rfl) dL_law_1849 dL_law_1850 dL_law_1852 dL_law_1853 dL_law_1854 ?_
  have hF := va_free (wc := wMo cI aM M hs) hD hS hA [100, 101, 102, 103, 104, 105, 106, 107, 108] rfl
  refine va_calli (va_runV (As := [.int (xs (i + 1)), .int (xs (i + 2))]) (rest := []) ⟨hx, hb, hml, hown, hts⟩ (met_X7_gain l dC dI cI cZ cS aM M hs H1.size (xs (i + 1)) (xs (i + 2)) _ e7) (cwV 2 hts gL_law_X7_gain rfl rfl rfl (by decide +kernel) ⟨(Nat.le_of_ble_eq_true rfl), (Nat.le_of_ble_eq_true rfl)⟩) (pV (wc := wMo cI aM M hs) (ci := 7) (q0 := 100) hK3 hP hD hN [100, 101, 102, 103, 104, 105, 106, 107, 108] rfl (by decide) rfl rfl) rfl rfl hl.1 rfl (lv_room (Nat.le_of_ble_eq_true rfl)) dL_law_1855 ⟨hc, hsl⟩) hS (fun q _ h => hF q h) hF (fun b9 u t H2 locs ht hvm hw hB hz1 hk1 hS => ?_)
  try dsimp only at hw hB
  cases hw
  rw [ht] at hB
  have hP := wrk2 (w2 := wFm aF aN aT aL aO aH aP aX ++ (wSt cI aN S ++ (wSt cI aT R ++ (wLo cI aL Y9 ++ (wOu aO aN aL ++ (wHi cS aH ah G ++ (wZs cI ah Z ++ (wSn cI cZ aP N ++ (wTx cI aX T ++ (wMo cI aM M9 hs ++ (wOt cJ ao f9))))))))))) (wr := wFm aF aN aT aL aO aH aP aX ++ (wSt cI aN S ++ (wSt cI aT R ++ (wLo cI aL Y9 ++ (wOu aO aN aL ++ (wHi cS aH ah G ++ (wZs cI ah Z ++ (wSn cI cZ aP N ++ (wTx cI aX T ++ (wOt cJ ao f9)))))))))) hP hD [100, 101, 102, 103, 104, 105, 106, 107, 108] [0, 1, 2, 3, 4, 5, 6, 7, 8, 9, 10, 11, 12, 13, 14, 15, 16, 17, 18, 19, 20, 21, 22, 23, 24, 25, 26, 27, 28, 29, 30, 31, 32, 33, 34, 35, 36, 37, 38, 39, 40, 41, 42, 43, 44, 45, 46, 47, 48, 49, 50, 51, 52, 53, 54, 55, 56, 57, 58, 59, 60, 61, 62, 63, 64, 65, 66, 67, 68, 69, 70, 71, 72, 73, 74, 75, 76, 77, 78, 79, 80, 81, 82, 83, 84, 85, 86, 87, 88, 89, 90, 91, 92, 93, 94, 95, 96, 97, 98, 99, 109] rfl rfl (by decide) hk1 hB [0, 1, 2, 3, 4, 5, 6, 7, 8, 9, 10, 11, 12, 13, 14, 15, 16, 17, 18, 19, 20, 21, 22, 23, 24, 25, 26, 27, 28, 29, 30, 31, 32, 33, 34, 35, 36, 37, 38, 39, 40, 41, 42, 43, 44, 45, 46, 47, 48, 49, 50, 51, 52, 53, 54, 55, 56, 57, 58, 59, 60, 61, 62, 63, 64, 65, 66, 67, 68, 69, 70, 71, 72, 73, 74, 75, 76, 77, 78, 79, 80, 81, 82, 83, 84, 85, 86, 87, 88, 89, 90, 91, 92, 93, 94, 95, 96, 97, 98, 99, 101, 102, 103, 104, 105, 106, 107, 108, 109, 100] rfl
  have hD := D_addr (w1 := wFm aF aN aT aL aO aH aP aX ++ (wSt cI aN S ++ (wSt cI aT R ++ (wLo cI aL Y9 ++ (wOu aO aN aL ++ (wHi cS aH ah G ++ (wZs cI ah Z ++ (wSn cI cZ aP N ++ (wTx cI aX T ++ (wMo cI aM M9 hs ++ (wOt cJ ao f9))))))))))) hD rfl
  refine lv_istore (lv' := [(6, .int b0), (5, .int k9), (0, .ref b), (1, .ref (aF 0)), (2, .ref (aM 0)), (3, .ref ao), (4, .int (nI i))]) hx hb dL_law_1858 hl (by decide) rfl (fun ls hl => ?_)
  refine lv_aload_n hx hb dL_law_1860 rfl (lv_at hl 4 rfl) ?_
  refine va_calli (va_runV (As := []) (rest := []) ⟨hx, hb, hml, hown, hts⟩ (met_X7_thrown l dC dI cI cZ cS aM M9 hs H2.size) (cwV 0 hts gL_law_X7_thrown rfl rfl rfl (by decide +kernel) ⟨(Nat.le_of_ble_eq_true rfl), (Nat.le_of_ble_eq_true rfl)⟩) (pV (wc := wMo cI aM M9 hs) (ci := 7) (q0 := 100) hK3 hP hD hN [100, 101, 102, 103, 104, 105, 106, 107, 108] rfl (by decide) rfl rfl) rfl rfl hl.1 rfl (lv_room (Nat.le_of_ble_eq_true rfl)) dL_law_1861 ⟨hc, hsl⟩) hS (fun q _ h => a0_in hS hA q h) (a0_in hS hA) (fun r9 u t H3 locs ht hvm hw hB hz1 hk1 hS => ?_)
  clear hB
  have hP := rdk hP hk1
  have hw : r9 = M9 7 0 := hw
  subst hw
  refine lv_iload hx hb dL_law_1864 (lv_at hl 1 rfl) ?_
  refine lv_icmp_eq (tgt := 1871) hx hb dL_law_1866 (by decide) (fun _ => ?_) (fun q => absurd hcm.1.symm q)
  refine lv_iload hx hb dL_law_1871 (lv_at hl 1 rfl) ?_
  refine lv_if_ne (tgt := 1888) hx hb dL_law_1873 (by decide) (fun q9 => ?_) (fun q9 => ?_)
  · refine lv_goto (tgt := 2002) hx hb dL_law_1888 (by decide) ?_
    exact k _ _ ⟨S, R, Y9, G, Z, N, T, M9, hs, f9, hI, hP, hD⟩ hS ls (lv_sub hl [2, 3, 4, 5, 6] rfl)
  · refine lv_aload_n hx hb dL_law_1876 rfl (lv_at hl 5 rfl) ?_
    refine lv_iconst (v := (0 : Int32)) hx hb dL_law_1877 (by decide) ?_
    refine va_lald hx hb hK hP 109 3 rfl rfl (by unfold vp_in; decide) dL_law_1878 ?_
    refine lv_iload hx hb dL_law_1879 (lv_at hl 0 rfl) ?_
    refine lv_i2l (v := b0.toInt64) hx hb dL_law_1881 rfl ?_
    rw [show f9 (0 : Int32).toNatClampNeg = b0.toInt64 from hcm.2 q9]
    refine W.lcmp hx hb dL_law_1882 ?_
    rw [lg_cmp_self]
    refine lv_if_eq (tgt := 1888) hx hb dL_law_1883 (by decide) (fun _ => ?_) (fun q => absurd rfl q)
    refine lv_goto (tgt := 2002) hx hb dL_law_1888 (by decide) ?_
    exact k _ _ ⟨S, R, Y9, G, Z, N, T, M9, hs, f9, hI, hP, hD⟩ hS ls (lv_sub hl [2, 3, 4, 5, 6] rfl)
set_option maxHeartbeats 4000000 in
set_option maxRecDepth 100000 in
theorem law_c_bestDay {p : Program} {e : Env} {s : State} {m : MethodId} {below : List Frame} {meth : Method} {c : Code} {Q : State → Prop} (l : Launch) (hfl : l.stackTraces = false) {dC : Nat → ClassId} {dI : Nat → Nat → Nat} {cI cZ cS cJ : ClassId} {b L : Nat} {xs : Nat → Int32} {aF aN aT aL aO aH : Nat → Nat} {ah : Nat → Nat → Nat} {aP aX aM : Nat → Nat} {ao : Nat} (C : LC dC dI cI cZ cS cJ p s m c b L xs) {i : Nat} (hi : i + 5 ≤ L) {cells slots : Nat} (hc : cells + 1 ≤ 601024) (hsl : slots + 6 ≤ 7293034) {H : Heap} {locs : List Loc} (I : LI dC dI cI cZ cS cJ aF aN aT aL aO aH ah aP aX aM ao s H) (hS : va_S (fun q : Nat => s.heap.size ≤ q) s.heap H locs) {ls : Array Slot} (hl : lv_has ls 9 [(0, .ref b), (1, .ref (aF 0)), (2, .ref (aM 0)), (3, .ref ao), (4, .int (nI i))])
    (k : ∀ (H : Heap) (locs : List Loc), LI dC dI cI cZ cS cJ aF aN aT aL aO aH ah aP aX aM ao s H → va_S (fun q : Nat => s.heap.size ≤ q) s.heap H locs → ∀ ls : Array Slot, lv_has ls 9 [(0, .ref b), (1, .ref (aF 0)), (2, .ref (aM 0)), (3, .ref ao), (4, .int (nI i))] → W p l e room_1 s m #[Value.ref b] below meth c H locs (cells + 1) (slots + 6) Q (F0 m 2002 ls [])) : W p l e room_1 s m #[Value.ref b] below meth c H locs cells slots Q (F0 m 1891 ls []) := by
  obtain ⟨hx, hb, hml, hown, hts, hK, hN, hXW, hNC, hX, hbl, hL⟩ := C
  obtain ⟨S, R, Y, G, Z, N, T, M, hs, f, hI, hP, hD⟩ := I
  have hA : ∀ q : Nat, s.heap.size ≤ q → (fun q : Nat => s.heap.size ≤ q) q := fun _ h => h
  have hK3 := hK.sub (tys' := tyS cI cZ cS) [0, 1, 2] rfl
  obtain ⟨c0, r0, Y9, b0, M9, e6, e7, hI, hAn⟩ := st_bestDay hI Y (xs (i + 1))
  refine lv_aload_n hx hb dL_law_1891 rfl (lv_at hl 1 rfl) ?_
  refine law_rd (k := 1) hx hb hX hbl hS hi hL (by decide) (by decide) (lv_at hl 0 rfl) (lv_at hl 4 rfl) dL_law_1892 dL_law_1893 dL_law_1895 dL_law_1896 dL_law_1897 ?_
  refine lv_aload_n hx hb dL_law_1898 rfl (lv_at hl 3 rfl) ?_
  have hF := va_free (wc := (wFm aF aN aT aL aO aH aP aX ++ (wSt cI aN S ++ (wLo cI aL Y ++ (wOu aO aN aL)))) ++ wOt cJ ao f) hD hS hA [0, 1, 2, 3, 4, 5, 6, 7, 8, 9, 10, 11, 23, 24, 25, 26, 109] rfl
  refine va_calli (vx_runSW (As := [.ref (aF 0), .int (xs (i + 1)), .ref ao]) (rest := []) ⟨hx, hb, hml, hown, hts⟩ (met_L_bestDay l hfl dC dI cI cZ cS cJ aF aN aT aL aO aH ah aP aX ao f S Y s.heap.size H.size (xs (i + 1)) (c0, r0, S, Y9) e6 (fun c r q => by obtain ⟨u, hu⟩ := q; cases hu; exact an_ks hAn)) (vx_cwSW 3 hts gL_law_L_bestDay rfl rfl rfl (by decide +kernel) ⟨(Nat.le_of_ble_eq_true rfl), (Nat.le_of_ble_eq_true rfl)⟩) (pLS (wc := (wFm aF aN aT aL aO aH aP aX ++ (wSt cI aN S ++ (wLo cI aL Y ++ (wOu aO aN aL)))) ++ wOt cJ ao f) hK hP hD hN hXW hNC hS [0, 1, 2, 3, 4, 5, 6, 7, 8, 9, 10, 11, 23, 24, 25, 26, 109] rfl (by decide)) rfl rfl hl.1 rfl (lv_room (Nat.le_of_ble_eq_true rfl)) dL_law_1899 ⟨hc, hsl⟩) hS (fun q _ h => hF q h) hF (fun k9 u t H1 locs ht hvm hw hB hz1 hk1 hS => ?_)
  obtain ⟨u1, f9⟩ := u
  obtain ⟨c1, r1, hcr, hwr⟩ := hw
  try dsimp only at hcr hwr
  cases hcr
  have hcm := an_wrp (by decide) (by decide) (by decide) hwr hAn
  rw [ht] at hB
  have hB : va_P (dC, dI) vwCl ((wFm aF aN aT aL aO aH aP aX ++ (wSt cI aN S ++ (wLo cI aL Y9 ++ (wOu aO aN aL)))) ++ wOt cJ ao f9) H1 := hB
  have hP := wrk2 (w2 := wFm aF aN aT aL aO aH aP aX ++ (wSt cI aN S ++ (wSt cI aT R ++ (wLo cI aL Y9 ++ (wOu aO aN aL ++ (wHi cS aH ah G ++ (wZs cI ah Z ++ (wSn cI cZ aP N ++ (wTx cI aX T ++ (wMo cI aM M hs ++ (wOt cJ ao f9))))))))))) (wr := wSt cI aT R ++ (wHi cS aH ah G ++ (wZs cI ah Z ++ (wSn cI cZ aP N ++ (wTx cI aX T ++ (wMo cI aM M hs)))))) hP hD [0, 1, 2, 3, 4, 5, 6, 7, 8, 9, 10, 11, 23, 24, 25, 26, 109] [12, 13, 14, 15, 16, 17, 18, 19, 20, 21, 22, 27, 28, 29, 30, 31, 32, 33, 34, 35, 36, 37, 38, 39, 40, 41, 42, 43, 44, 45, 46, 47, 48, 49, 50, 51, 52, 53, 54, 55, 56, 57, 58, 59, 60, 61, 62, 63, 64, 65, 66, 67, 68, 69, 70, 71, 72, 73, 74, 75, 76, 77, 78, 79, 80, 81, 82, 83, 84, 85, 86, 87, 88, 89, 90, 91, 92, 93, 94, 95, 96, 97, 98, 99, 100, 101, 102, 103, 104, 105, 106, 107, 108] rfl rfl (by decide) hk1 hB [93, 94, 95, 96, 97, 98, 99, 100, 101, 102, 103, 104, 0, 1, 2, 3, 4, 5, 6, 7, 8, 9, 10, 105, 106, 107, 108, 11, 12, 13, 14, 15, 16, 17, 18, 19, 20, 21, 22, 23, 24, 25, 26, 27, 28, 29, 30, 31, 32, 33, 34, 35, 36, 37, 38, 39, 40, 41, 42, 43, 44, 45, 46, 47, 48, 49, 50, 51, 52, 53, 54, 55, 56, 57, 58, 59, 60, 61, 62, 63, 64, 65, 66, 67, 68, 69, 70, 71, 72, 73, 74, 75, 76, 77, 78, 79, 80, 81, 82, 83, 84, 85, 86, 87, 88, 89, 90, 91, 92, 109] rfl
  have hD := D_addr (w1 := wFm aF aN aT aL aO aH aP aX ++ (wSt cI aN S ++ (wSt cI aT R ++ (wLo cI aL Y9 ++ (wOu aO aN aL ++ (wHi cS aH ah G ++ (wZs cI ah Z ++ (wSn cI cZ aP N ++ (wTx cI aX T ++ (wMo cI aM M hs ++ (wOt cJ ao f9))))))))))) hD rfl
  refine lv_istore (lv' := [(5, .int k9), (0, .ref b), (1, .ref (aF 0)), (2, .ref (aM 0)), (3, .ref ao), (4, .int (nI i))]) hx hb dL_law_1902 hl (by decide) rfl (fun ls hl => ?_)
  refine lv_aload_n hx hb dL_law_1904 rfl (lv_at hl 3 rfl) ?_
  refine law_rd (k := 1) hx hb hX hbl hS hi hL (by decide) (by decide) (lv_at hl 1 rfl) (lv_at hl 5 rfl) dL_law_1905 dL_law_1906 dL_law_1908 dL_law_1909 dL_law_1910 ?_
  have hF := va_free (wc := wMo cI aM M hs) hD hS hA [100, 101, 102, 103, 104, 105, 106, 107, 108] rfl
  refine va_calli (va_runV (As := [.int (xs (i + 1))]) (rest := []) ⟨hx, hb, hml, hown, hts⟩ (met_X7_bestDay l dC dI cI cZ cS aM M hs H1.size (xs (i + 1)) _ e7) (cwV 1 hts gL_law_X7_bestDay rfl rfl rfl (by decide +kernel) ⟨(Nat.le_of_ble_eq_true rfl), (Nat.le_of_ble_eq_true rfl)⟩) (pV (wc := wMo cI aM M hs) (ci := 7) (q0 := 100) hK3 hP hD hN [100, 101, 102, 103, 104, 105, 106, 107, 108] rfl (by decide) rfl rfl) rfl rfl hl.1 rfl (lv_room (Nat.le_of_ble_eq_true rfl)) dL_law_1911 ⟨hc, hsl⟩) hS (fun q _ h => hF q h) hF (fun b9 u t H2 locs ht hvm hw hB hz1 hk1 hS => ?_)
  try dsimp only at hw hB
  cases hw
  rw [ht] at hB
  have hP := wrk2 (w2 := wFm aF aN aT aL aO aH aP aX ++ (wSt cI aN S ++ (wSt cI aT R ++ (wLo cI aL Y9 ++ (wOu aO aN aL ++ (wHi cS aH ah G ++ (wZs cI ah Z ++ (wSn cI cZ aP N ++ (wTx cI aX T ++ (wMo cI aM M9 hs ++ (wOt cJ ao f9))))))))))) (wr := wFm aF aN aT aL aO aH aP aX ++ (wSt cI aN S ++ (wSt cI aT R ++ (wLo cI aL Y9 ++ (wOu aO aN aL ++ (wHi cS aH ah G ++ (wZs cI ah Z ++ (wSn cI cZ aP N ++ (wTx cI aX T ++ (wOt cJ ao f9)))))))))) hP hD [100, 101, 102, 103, 104, 105, 106, 107, 108] [0, 1, 2, 3, 4, 5, 6, 7, 8, 9, 10, 11, 12, 13, 14, 15, 16, 17, 18, 19, 20, 21, 22, 23, 24, 25, 26, 27, 28, 29, 30, 31, 32, 33, 34, 35, 36, 37, 38, 39, 40, 41, 42, 43, 44, 45, 46, 47, 48, 49, 50, 51, 52, 53, 54, 55, 56, 57, 58, 59, 60, 61, 62, 63, 64, 65, 66, 67, 68, 69, 70, 71, 72, 73, 74, 75, 76, 77, 78, 79, 80, 81, 82, 83, 84, 85, 86, 87, 88, 89, 90, 91, 92, 93, 94, 95, 96, 97, 98, 99, 109] rfl rfl (by decide) hk1 hB [0, 1, 2, 3, 4, 5, 6, 7, 8, 9, 10, 11, 12, 13, 14, 15, 16, 17, 18, 19, 20, 21, 22, 23, 24, 25, 26, 27, 28, 29, 30, 31, 32, 33, 34, 35, 36, 37, 38, 39, 40, 41, 42, 43, 44, 45, 46, 47, 48, 49, 50, 51, 52, 53, 54, 55, 56, 57, 58, 59, 60, 61, 62, 63, 64, 65, 66, 67, 68, 69, 70, 71, 72, 73, 74, 75, 76, 77, 78, 79, 80, 81, 82, 83, 84, 85, 86, 87, 88, 89, 90, 91, 92, 93, 94, 95, 96, 97, 98, 99, 101, 102, 103, 104, 105, 106, 107, 108, 109, 100] rfl
  have hD := D_addr (w1 := wFm aF aN aT aL aO aH aP aX ++ (wSt cI aN S ++ (wSt cI aT R ++ (wLo cI aL Y9 ++ (wOu aO aN aL ++ (wHi cS aH ah G ++ (wZs cI ah Z ++ (wSn cI cZ aP N ++ (wTx cI aX T ++ (wMo cI aM M9 hs ++ (wOt cJ ao f9))))))))))) hD rfl
  refine lv_istore (lv' := [(6, .int b0), (5, .int k9), (0, .ref b), (1, .ref (aF 0)), (2, .ref (aM 0)), (3, .ref ao), (4, .int (nI i))]) hx hb dL_law_1914 hl (by decide) rfl (fun ls hl => ?_)
  refine lv_aload_n hx hb dL_law_1916 rfl (lv_at hl 4 rfl) ?_
  refine va_calli (va_runV (As := []) (rest := []) ⟨hx, hb, hml, hown, hts⟩ (met_X7_thrown l dC dI cI cZ cS aM M9 hs H2.size) (cwV 0 hts gL_law_X7_thrown rfl rfl rfl (by decide +kernel) ⟨(Nat.le_of_ble_eq_true rfl), (Nat.le_of_ble_eq_true rfl)⟩) (pV (wc := wMo cI aM M9 hs) (ci := 7) (q0 := 100) hK3 hP hD hN [100, 101, 102, 103, 104, 105, 106, 107, 108] rfl (by decide) rfl rfl) rfl rfl hl.1 rfl (lv_room (Nat.le_of_ble_eq_true rfl)) dL_law_1917 ⟨hc, hsl⟩) hS (fun q _ h => a0_in hS hA q h) (a0_in hS hA) (fun r9 u t H3 locs ht hvm hw hB hz1 hk1 hS => ?_)
  clear hB
  have hP := rdk hP hk1
  have hw : r9 = M9 7 0 := hw
  subst hw
  refine lv_iload hx hb dL_law_1920 (lv_at hl 1 rfl) ?_
  refine lv_icmp_eq (tgt := 1927) hx hb dL_law_1922 (by decide) (fun _ => ?_) (fun q => absurd hcm.1.symm q)
  refine lv_iload hx hb dL_law_1927 (lv_at hl 1 rfl) ?_
  refine lv_if_ne (tgt := 1944) hx hb dL_law_1929 (by decide) (fun q9 => ?_) (fun q9 => ?_)
  · refine lv_goto (tgt := 2002) hx hb dL_law_1944 (by decide) ?_
    exact k _ _ ⟨S, R, Y9, G, Z, N, T, M9, hs, f9, hI, hP, hD⟩ hS ls (lv_sub hl [2, 3, 4, 5, 6] rfl)
  · refine lv_aload_n hx hb dL_law_1932 rfl (lv_at hl 5 rfl) ?_
    refine lv_iconst (v := (0 : Int32)) hx hb dL_law_1933 (by decide) ?_
    refine va_lald hx hb hK hP 109 3 rfl rfl (by unfold vp_in; decide) dL_law_1934 ?_
    refine lv_iload hx hb dL_law_1935 (lv_at hl 0 rfl) ?_
    refine lv_i2l (v := b0.toInt64) hx hb dL_law_1937 rfl ?_
    rw [show f9 (0 : Int32).toNatClampNeg = b0.toInt64 from hcm.2 q9]
    refine W.lcmp hx hb dL_law_1938 ?_
    rw [lg_cmp_self]
    refine lv_if_eq (tgt := 1944) hx hb dL_law_1939 (by decide) (fun _ => ?_) (fun q => absurd rfl q)
    refine lv_goto (tgt := 2002) hx hb dL_law_1944 (by decide) ?_
    exact k _ _ ⟨S, R, Y9, G, Z, N, T, M9, hs, f9, hI, hP, hD⟩ hS ls (lv_sub hl [2, 3, 4, 5, 6] rfl)
