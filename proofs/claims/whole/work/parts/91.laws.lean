set_option maxHeartbeats 4000000 in
set_option maxRecDepth 100000 in
theorem law_c_clear {p : Program} {e : Env} {s : State} {m : MethodId} {below : List Frame} {meth : Method} {c : Code} {Q : State → Prop} (l : Launch) (hfl : l.stackTraces = false) {dC : Nat → ClassId} {dI : Nat → Nat → Nat} {cI cZ cS cJ : ClassId} {b L : Nat} {xs : Nat → Int32} {aF aN aT aL aO aH : Nat → Nat} {ah : Nat → Nat → Nat} {aP aX aM : Nat → Nat} {ao : Nat} (C : LC dC dI cI cZ cS cJ p s m c b L xs) {i : Nat} (hi : i + 5 ≤ L) {cells slots : Nat} (hc : cells + 1 ≤ 601024) (hsl : slots + 6 ≤ 7293034) {H : Heap} {locs : List Loc} (I : LI dC dI cI cZ cS cJ aF aN aT aL aO aH ah aP aX aM ao s H) (hS : va_S (fun q : Nat => s.heap.size ≤ q) s.heap H locs) {ls : Array Slot} (hl : lv_has ls 9 [(0, .ref b), (1, .ref (aF 0)), (2, .ref (aM 0)), (3, .ref ao), (4, .int (nI i))])
    (k : ∀ (H : Heap) (locs : List Loc), LI dC dI cI cZ cS cJ aF aN aT aL aO aH ah aP aX aM ao s H → va_S (fun q : Nat => s.heap.size ≤ q) s.heap H locs → ∀ ls : Array Slot, lv_has ls 9 [(0, .ref b), (1, .ref (aF 0)), (2, .ref (aM 0)), (3, .ref ao), (4, .int (nI i))] → W p l e room_1 s m #[Value.ref b] below meth c H locs (cells + 1) (slots + 6) Q (F0 m 2002 ls [])) : W p l e room_1 s m #[Value.ref b] below meth c H locs cells slots Q (F0 m 860 ls []) := by
  obtain ⟨hx, hb, hml, hown, hts, hK, hN, hXW, hNC, hX, hbl, hL⟩ := C
  obtain ⟨S, R, Y, G, Z, N, T, M, hs, f, hI, hP, hD⟩ := I
  have hA : ∀ q : Nat, s.heap.size ≤ q → (fun q : Nat => s.heap.size ≤ q) q := fun _ h => h
  have hK3 := hK.sub (tys' := tyS cI cZ cS) [0, 1, 2] rfl
  have hc0 : cells ≤ 601024 := Nat.le_trans (Nat.le_add_right _ _) hc
  have hsl0 : slots ≤ 7293034 := Nat.le_trans (Nat.le_add_right _ _) hsl
  obtain ⟨r0, S9, G9, Z9, M9, e6, e7, hI⟩ := st_clear hI
  refine lv_aload_n hx hb dL_law_860 rfl (lv_at hl 1 rfl) ?_
  have hF := va_free (wc := wFm aF aN aT aL aO aH aP aX ++ (wSt cI aN S ++ (wHi cS aH ah G ++ (wZs cI ah Z)))) hD hS hA [0, 1, 2, 3, 4, 5, 6, 7, 8, 9, 10, 11, 27, 28, 29, 30, 31, 32, 33, 34, 35, 36, 37, 38, 39, 40, 41, 42, 43, 44, 45, 46, 47, 48, 49, 50, 51, 52, 53, 54, 55, 56, 57, 58, 59, 60, 61, 62, 63, 64, 65, 66, 67, 68, 69, 70, 71, 72, 73, 74, 75, 76, 77, 78, 79, 80, 81, 82, 83, 84, 85, 86, 87, 88, 89, 90, 91, 92, 93, 94] rfl
  refine va_calli (va_runV (As := []) (rest := []) ⟨hx, hb, hml, hown, hts⟩ (met_X6_clear l dC dI cI cZ cS aF aN aT aL aO aH ah aP aX S G Z H.size) (cwV 0 hts gL_law_X6_clear rfl rfl rfl (by decide +kernel) ⟨(Nat.le_of_ble_eq_true rfl), (Nat.le_of_ble_eq_true rfl)⟩) (pV (wc := wFm aF aN aT aL aO aH aP aX ++ (wSt cI aN S ++ (wHi cS aH ah G ++ (wZs cI ah Z)))) (ci := 6) (q0 := 0) hK3 hP hD hN [0, 1, 2, 3, 4, 5, 6, 7, 8, 9, 10, 11, 27, 28, 29, 30, 31, 32, 33, 34, 35, 36, 37, 38, 39, 40, 41, 42, 43, 44, 45, 46, 47, 48, 49, 50, 51, 52, 53, 54, 55, 56, 57, 58, 59, 60, 61, 62, 63, 64, 65, 66, 67, 68, 69, 70, 71, 72, 73, 74, 75, 76, 77, 78, 79, 80, 81, 82, 83, 84, 85, 86, 87, 88, 89, 90, 91, 92, 93, 94] rfl (by decide) rfl rfl) rfl rfl hl.1 rfl (lv_room (Nat.le_of_ble_eq_true rfl)) dL_law_861 ⟨hc0, hsl0⟩) hS (fun q _ h => hF q h) hF (fun r9 u t H1 locs ht hvm hw hB hz1 hk1 hS => ?_)
  try dsimp only at hw hB
  rw [e6] at hw
  cases hw
  rw [ht] at hB
  have hB : va_P (dC, dI) vwCl (wFm aF aN aT aL aO aH aP aX ++ (wSt cI aN S9 ++ (wHi cS aH ah G9 ++ (wZs cI ah Z9)))) H1 := hB
  have hP := wrk2 (w2 := wFm aF aN aT aL aO aH aP aX ++ (wSt cI aN S9 ++ (wSt cI aT R ++ (wLo cI aL Y ++ (wOu aO aN aL ++ (wHi cS aH ah G9 ++ (wZs cI ah Z9 ++ (wSn cI cZ aP N ++ (wTx cI aX T ++ (wMo cI aM M hs ++ (wOt cJ ao f))))))))))) (wr := wSt cI aT R ++ (wLo cI aL Y ++ (wOu aO aN aL ++ (wSn cI cZ aP N ++ (wTx cI aX T ++ (wMo cI aM M hs ++ (wOt cJ ao f))))))) hP hD [0, 1, 2, 3, 4, 5, 6, 7, 8, 9, 10, 11, 27, 28, 29, 30, 31, 32, 33, 34, 35, 36, 37, 38, 39, 40, 41, 42, 43, 44, 45, 46, 47, 48, 49, 50, 51, 52, 53, 54, 55, 56, 57, 58, 59, 60, 61, 62, 63, 64, 65, 66, 67, 68, 69, 70, 71, 72, 73, 74, 75, 76, 77, 78, 79, 80, 81, 82, 83, 84, 85, 86, 87, 88, 89, 90, 91, 92, 93, 94] [12, 13, 14, 15, 16, 17, 18, 19, 20, 21, 22, 23, 24, 25, 26, 95, 96, 97, 98, 99, 100, 101, 102, 103, 104, 105, 106, 107, 108, 109] rfl rfl (by decide) hk1 hB [30, 31, 32, 33, 34, 35, 36, 37, 38, 39, 40, 41, 0, 1, 2, 3, 4, 5, 6, 7, 8, 9, 10, 11, 12, 13, 14, 42, 43, 44, 45, 46, 47, 48, 49, 50, 51, 52, 53, 54, 55, 56, 57, 58, 59, 60, 61, 62, 63, 64, 65, 66, 67, 68, 69, 70, 71, 72, 73, 74, 75, 76, 77, 78, 79, 80, 81, 82, 83, 84, 85, 86, 87, 88, 89, 90, 91, 92, 93, 94, 95, 96, 97, 98, 99, 100, 101, 102, 103, 104, 105, 106, 107, 108, 109, 15, 16, 17, 18, 19, 20, 21, 22, 23, 24, 25, 26, 27, 28, 29] rfl
  have hD := D_addr (w1 := wFm aF aN aT aL aO aH aP aX ++ (wSt cI aN S9 ++ (wSt cI aT R ++ (wLo cI aL Y ++ (wOu aO aN aL ++ (wHi cS aH ah G9 ++ (wZs cI ah Z9 ++ (wSn cI cZ aP N ++ (wTx cI aX T ++ (wMo cI aM M hs ++ (wOt cJ ao f))))))))))) hD rfl
  refine lv_aload_n hx hb dL_law_864 rfl (lv_at hl 2 rfl) ?_
  have hF := va_free (wc := wMo cI aM M hs) hD hS hA [100, 101, 102, 103, 104, 105, 106, 107, 108] rfl
  refine va_calli (va_runV (As := []) (rest := [.int r0]) ⟨hx, hb, hml, hown, hts⟩ (met_X7_clear l dC dI cI cZ cS aM M hs H1.size _ e7) (cwV 0 hts gL_law_X7_clear rfl rfl rfl (by decide +kernel) ⟨(Nat.le_of_ble_eq_true rfl), (Nat.le_of_ble_eq_true rfl)⟩) (pV (wc := wMo cI aM M hs) (ci := 7) (q0 := 100) hK3 hP hD hN [100, 101, 102, 103, 104, 105, 106, 107, 108] rfl (by decide) rfl rfl) rfl rfl hl.1 rfl (lv_room (Nat.le_of_ble_eq_true rfl)) dL_law_865 ⟨hc0, hsl0⟩) hS (fun q _ h => hF q h) hF (fun b9 u t H2 locs ht hvm hw hB hz1 hk1 hS => ?_)
  try dsimp only at hw hB
  cases hw
  rw [ht] at hB
  have hB : va_P (dC, dI) vwCl (wMo cI aM M9 hs) H2 := hB
  have hP := wrk2 (w2 := wFm aF aN aT aL aO aH aP aX ++ (wSt cI aN S9 ++ (wSt cI aT R ++ (wLo cI aL Y ++ (wOu aO aN aL ++ (wHi cS aH ah G9 ++ (wZs cI ah Z9 ++ (wSn cI cZ aP N ++ (wTx cI aX T ++ (wMo cI aM M9 hs ++ (wOt cJ ao f))))))))))) (wr := wFm aF aN aT aL aO aH aP aX ++ (wSt cI aN S9 ++ (wSt cI aT R ++ (wLo cI aL Y ++ (wOu aO aN aL ++ (wHi cS aH ah G9 ++ (wZs cI ah Z9 ++ (wSn cI cZ aP N ++ (wTx cI aX T ++ (wOt cJ ao f)))))))))) hP hD [100, 101, 102, 103, 104, 105, 106, 107, 108] [0, 1, 2, 3, 4, 5, 6, 7, 8, 9, 10, 11, 12, 13, 14, 15, 16, 17, 18, 19, 20, 21, 22, 23, 24, 25, 26, 27, 28, 29, 30, 31, 32, 33, 34, 35, 36, 37, 38, 39, 40, 41, 42, 43, 44, 45, 46, 47, 48, 49, 50, 51, 52, 53, 54, 55, 56, 57, 58, 59, 60, 61, 62, 63, 64, 65, 66, 67, 68, 69, 70, 71, 72, 73, 74, 75, 76, 77, 78, 79, 80, 81, 82, 83, 84, 85, 86, 87, 88, 89, 90, 91, 92, 93, 94, 95, 96, 97, 98, 99, 109] rfl rfl (by decide) hk1 hB [0, 1, 2, 3, 4, 5, 6, 7, 8, 9, 10, 11, 12, 13, 14, 15, 16, 17, 18, 19, 20, 21, 22, 23, 24, 25, 26, 27, 28, 29, 30, 31, 32, 33, 34, 35, 36, 37, 38, 39, 40, 41, 42, 43, 44, 45, 46, 47, 48, 49, 50, 51, 52, 53, 54, 55, 56, 57, 58, 59, 60, 61, 62, 63, 64, 65, 66, 67, 68, 69, 70, 71, 72, 73, 74, 75, 76, 77, 78, 79, 80, 81, 82, 83, 84, 85, 86, 87, 88, 89, 90, 91, 92, 93, 94, 95, 96, 97, 98, 99, 101, 102, 103, 104, 105, 106, 107, 108, 109, 100] rfl
  have hD := D_addr (w1 := wFm aF aN aT aL aO aH aP aX ++ (wSt cI aN S9 ++ (wSt cI aT R ++ (wLo cI aL Y ++ (wOu aO aN aL ++ (wHi cS aH ah G9 ++ (wZs cI ah Z9 ++ (wSn cI cZ aP N ++ (wTx cI aX T ++ (wMo cI aM M9 hs ++ (wOt cJ ao f))))))))))) hD rfl
  refine lv_icmp_eq (tgt := 2002) hx hb dL_law_868 (by decide) (fun _ => ?_) (fun q => absurd rfl q)
  refine W.widen (k := cells + 1) (n := slots + 6) (by omega) (by omega) ?_
  exact k _ _ ⟨S9, R, Y, G9, Z9, N, T, M9, hs, f, hI, hP, hD⟩ hS ls (lv_sub hl [0, 1, 2, 3, 4] rfl)
set_option maxHeartbeats 4000000 in
set_option maxRecDepth 100000 in
theorem law_c_clearBuffer {p : Program} {e : Env} {s : State} {m : MethodId} {below : List Frame} {meth : Method} {c : Code} {Q : State → Prop} (l : Launch) (hfl : l.stackTraces = false) {dC : Nat → ClassId} {dI : Nat → Nat → Nat} {cI cZ cS cJ : ClassId} {b L : Nat} {xs : Nat → Int32} {aF aN aT aL aO aH : Nat → Nat} {ah : Nat → Nat → Nat} {aP aX aM : Nat → Nat} {ao : Nat} (C : LC dC dI cI cZ cS cJ p s m c b L xs) {i : Nat} (hi : i + 5 ≤ L) {cells slots : Nat} (hc : cells + 1 ≤ 601024) (hsl : slots + 6 ≤ 7293034) {H : Heap} {locs : List Loc} (I : LI dC dI cI cZ cS cJ aF aN aT aL aO aH ah aP aX aM ao s H) (hS : va_S (fun q : Nat => s.heap.size ≤ q) s.heap H locs) {ls : Array Slot} (hl : lv_has ls 9 [(0, .ref b), (1, .ref (aF 0)), (2, .ref (aM 0)), (3, .ref ao), (4, .int (nI i))])
    (k : ∀ (H : Heap) (locs : List Loc), LI dC dI cI cZ cS cJ aF aN aT aL aO aH ah aP aX aM ao s H → va_S (fun q : Nat => s.heap.size ≤ q) s.heap H locs → ∀ ls : Array Slot, lv_has ls 9 [(0, .ref b), (1, .ref (aF 0)), (2, .ref (aM 0)), (3, .ref ao), (4, .int (nI i))] → W p l e room_1 s m #[Value.ref b] below meth c H locs (cells + 1) (slots + 6) Q (F0 m 2002 ls [])) : W p l e room_1 s m #[Value.ref b] below meth c H locs cells slots Q (F0 m 929 ls []) := by
  obtain ⟨hx, hb, hml, hown, hts, hK, hN, hXW, hNC, hX, hbl, hL⟩ := C
  obtain ⟨S, R, Y, G, Z, N, T, M, hs, f, hI, hP, hD⟩ := I
  have hA : ∀ q : Nat, s.heap.size ≤ q → (fun q : Nat => s.heap.size ≤ q) q := fun _ h => h
  have hK3 := hK.sub (tys' := tyS cI cZ cS) [0, 1, 2] rfl
  have hc0 : cells ≤ 601024 := Nat.le_trans (Nat.le_add_right _ _) hc
  have hsl0 : slots ≤ 7293034 := Nat.le_trans (Nat.le_add_right _ _) hsl
  obtain ⟨r0, T9, M9, e6, e7, hI⟩ := st_clearBuffer hI
  refine lv_aload_n hx hb dL_law_929 rfl (lv_at hl 1 rfl) ?_
  have hF := va_free (wc := wFm aF aN aT aL aO aH aP aX ++ (wTx cI aX T)) hD hS hA [0, 98, 99] rfl
  refine va_calli (va_runV (As := []) (rest := []) ⟨hx, hb, hml, hown, hts⟩ (met_X6_clearBuffer l dC dI cI cZ cS aF aN aT aL aO aH ah aP aX T H.size) (cwV 0 hts gL_law_X6_clearBuffer rfl rfl rfl (by decide +kernel) ⟨(Nat.le_of_ble_eq_true rfl), (Nat.le_of_ble_eq_true rfl)⟩) (pV (wc := wFm aF aN aT aL aO aH aP aX ++ (wTx cI aX T)) (ci := 6) (q0 := 0) hK3 hP hD hN [0, 98, 99] rfl (by decide) rfl rfl) rfl rfl hl.1 rfl (lv_room (Nat.le_of_ble_eq_true rfl)) dL_law_930 ⟨hc0, hsl0⟩) hS (fun q _ h => hF q h) hF (fun r9 u t H1 locs ht hvm hw hB hz1 hk1 hS => ?_)
  try dsimp only at hw hB
  rw [e6] at hw
  cases hw
  rw [ht] at hB
  have hB : va_P (dC, dI) vwCl (wFm aF aN aT aL aO aH aP aX ++ (wTx cI aX T9)) H1 := hB
  have hP := wrk2 (w2 := wFm aF aN aT aL aO aH aP aX ++ (wSt cI aN S ++ (wSt cI aT R ++ (wLo cI aL Y ++ (wOu aO aN aL ++ (wHi cS aH ah G ++ (wZs cI ah Z ++ (wSn cI cZ aP N ++ (wTx cI aX T9 ++ (wMo cI aM M hs ++ (wOt cJ ao f))))))))))) (wr := wSt cI aN S ++ (wSt cI aT R ++ (wLo cI aL Y ++ (wOu aO aN aL ++ (wHi cS aH ah G ++ (wZs cI ah Z ++ (wSn cI cZ aP N ++ (wMo cI aM M hs ++ (wOt cJ ao f))))))))) hP hD [0, 98, 99] [1, 2, 3, 4, 5, 6, 7, 8, 9, 10, 11, 12, 13, 14, 15, 16, 17, 18, 19, 20, 21, 22, 23, 24, 25, 26, 27, 28, 29, 30, 31, 32, 33, 34, 35, 36, 37, 38, 39, 40, 41, 42, 43, 44, 45, 46, 47, 48, 49, 50, 51, 52, 53, 54, 55, 56, 57, 58, 59, 60, 61, 62, 63, 64, 65, 66, 67, 68, 69, 70, 71, 72, 73, 74, 75, 76, 77, 78, 79, 80, 81, 82, 83, 84, 85, 86, 87, 88, 89, 90, 91, 92, 93, 94, 95, 96, 97, 100, 101, 102, 103, 104, 105, 106, 107, 108, 109] rfl rfl (by decide) hk1 hB [107, 0, 1, 2, 3, 4, 5, 6, 7, 8, 9, 10, 11, 12, 13, 14, 15, 16, 17, 18, 19, 20, 21, 22, 23, 24, 25, 26, 27, 28, 29, 30, 31, 32, 33, 34, 35, 36, 37, 38, 39, 40, 41, 42, 43, 44, 45, 46, 47, 48, 49, 50, 51, 52, 53, 54, 55, 56, 57, 58, 59, 60, 61, 62, 63, 64, 65, 66, 67, 68, 69, 70, 71, 72, 73, 74, 75, 76, 77, 78, 79, 80, 81, 82, 83, 84, 85, 86, 87, 88, 89, 90, 91, 92, 93, 94, 95, 96, 108, 109, 97, 98, 99, 100, 101, 102, 103, 104, 105, 106] rfl
  have hD := D_addr (w1 := wFm aF aN aT aL aO aH aP aX ++ (wSt cI aN S ++ (wSt cI aT R ++ (wLo cI aL Y ++ (wOu aO aN aL ++ (wHi cS aH ah G ++ (wZs cI ah Z ++ (wSn cI cZ aP N ++ (wTx cI aX T9 ++ (wMo cI aM M hs ++ (wOt cJ ao f))))))))))) hD rfl
  refine lv_aload_n hx hb dL_law_933 rfl (lv_at hl 2 rfl) ?_
  have hF := va_free (wc := wMo cI aM M hs) hD hS hA [100, 101, 102, 103, 104, 105, 106, 107, 108] rfl
  refine va_calli (va_runV (As := []) (rest := [.int r0]) ⟨hx, hb, hml, hown, hts⟩ (met_X7_clearBuffer l dC dI cI cZ cS aM M hs H1.size _ e7) (cwV 0 hts gL_law_X7_clearBuffer rfl rfl rfl (by decide +kernel) ⟨(Nat.le_of_ble_eq_true rfl), (Nat.le_of_ble_eq_true rfl)⟩) (pV (wc := wMo cI aM M hs) (ci := 7) (q0 := 100) hK3 hP hD hN [100, 101, 102, 103, 104, 105, 106, 107, 108] rfl (by decide) rfl rfl) rfl rfl hl.1 rfl (lv_room (Nat.le_of_ble_eq_true rfl)) dL_law_934 ⟨hc0, hsl0⟩) hS (fun q _ h => hF q h) hF (fun b9 u t H2 locs ht hvm hw hB hz1 hk1 hS => ?_)
  try dsimp only at hw hB
  cases hw
  rw [ht] at hB
  have hB : va_P (dC, dI) vwCl (wMo cI aM M9 hs) H2 := hB
  have hP := wrk2 (w2 := wFm aF aN aT aL aO aH aP aX ++ (wSt cI aN S ++ (wSt cI aT R ++ (wLo cI aL Y ++ (wOu aO aN aL ++ (wHi cS aH ah G ++ (wZs cI ah Z ++ (wSn cI cZ aP N ++ (wTx cI aX T9 ++ (wMo cI aM M9 hs ++ (wOt cJ ao f))))))))))) (wr := wFm aF aN aT aL aO aH aP aX ++ (wSt cI aN S ++ (wSt cI aT R ++ (wLo cI aL Y ++ (wOu aO aN aL ++ (wHi cS aH ah G ++ (wZs cI ah Z ++ (wSn cI cZ aP N ++ (wTx cI aX T9 ++ (wOt cJ ao f)))))))))) hP hD [100, 101, 102, 103, 104, 105, 106, 107, 108] [0, 1, 2, 3, 4, 5, 6, 7, 8, 9, 10, 11, 12, 13, 14, 15, 16, 17, 18, 19, 20, 21, 22, 23, 24, 25, 26, 27, 28, 29, 30, 31, 32, 33, 34, 35, 36, 37, 38, 39, 40, 41, 42, 43, 44, 45, 46, 47, 48, 49, 50, 51, 52, 53, 54, 55, 56, 57, 58, 59, 60, 61, 62, 63, 64, 65, 66, 67, 68, 69, 70, 71, 72, 73, 74, 75, 76, 77, 78, 79, 80, 81, 82, 83, 84, 85, 86, 87, 88, 89, 90, 91, 92, 93, 94, 95, 96, 97, 98, 99, 109] rfl rfl (by decide) hk1 hB [0, 1, 2, 3, 4, 5, 6, 7, 8, 9, 10, 11, 12, 13, 14, 15, 16, 17, 18, 19, 20, 21, 22, 23, 24, 25, 26, 27, 28, 29, 30, 31, 32, 33, 34, 35, 36, 37, 38, 39, 40, 41, 42, 43, 44, 45, 46, 47, 48, 49, 50, 51, 52, 53, 54, 55, 56, 57, 58, 59, 60, 61, 62, 63, 64, 65, 66, 67, 68, 69, 70, 71, 72, 73, 74, 75, 76, 77, 78, 79, 80, 81, 82, 83, 84, 85, 86, 87, 88, 89, 90, 91, 92, 93, 94, 95, 96, 97, 98, 99, 101, 102, 103, 104, 105, 106, 107, 108, 109, 100] rfl
  have hD := D_addr (w1 := wFm aF aN aT aL aO aH aP aX ++ (wSt cI aN S ++ (wSt cI aT R ++ (wLo cI aL Y ++ (wOu aO aN aL ++ (wHi cS aH ah G ++ (wZs cI ah Z ++ (wSn cI cZ aP N ++ (wTx cI aX T9 ++ (wMo cI aM M9 hs ++ (wOt cJ ao f))))))))))) hD rfl
  refine lv_icmp_eq (tgt := 2002) hx hb dL_law_937 (by decide) (fun _ => ?_) (fun q => absurd rfl q)
  refine W.widen (k := cells + 1) (n := slots + 6) (by omega) (by omega) ?_
  exact k _ _ ⟨S, R, Y, G, Z, N, T9, M9, hs, f, hI, hP, hD⟩ hS ls (lv_sub hl [0, 1, 2, 3, 4] rfl)
set_option maxHeartbeats 4000000 in
set_option maxRecDepth 100000 in
theorem law_c_firstError {p : Program} {e : Env} {s : State} {m : MethodId} {below : List Frame} {meth : Method} {c : Code} {Q : State → Prop} (l : Launch) (hfl : l.stackTraces = false) {dC : Nat → ClassId} {dI : Nat → Nat → Nat} {cI cZ cS cJ : ClassId} {b L : Nat} {xs : Nat → Int32} {aF aN aT aL aO aH : Nat → Nat} {ah : Nat → Nat → Nat} {aP aX aM : Nat → Nat} {ao : Nat} (C : LC dC dI cI cZ cS cJ p s m c b L xs) {i : Nat} (hi : i + 5 ≤ L) {cells slots : Nat} (hc : cells + 1 ≤ 601024) (hsl : slots + 6 ≤ 7293034) {H : Heap} {locs : List Loc} (I : LI dC dI cI cZ cS cJ aF aN aT aL aO aH ah aP aX aM ao s H) (hS : va_S (fun q : Nat => s.heap.size ≤ q) s.heap H locs) {ls : Array Slot} (hl : lv_has ls 9 [(0, .ref b), (1, .ref (aF 0)), (2, .ref (aM 0)), (3, .ref ao), (4, .int (nI i))])
    (k : ∀ (H : Heap) (locs : List Loc), LI dC dI cI cZ cS cJ aF aN aT aL aO aH ah aP aX aM ao s H → va_S (fun q : Nat => s.heap.size ≤ q) s.heap H locs → ∀ ls : Array Slot, lv_has ls 9 [(0, .ref b), (1, .ref (aF 0)), (2, .ref (aM 0)), (3, .ref ao), (4, .int (nI i))] → W p l e room_1 s m #[Value.ref b] below meth c H locs (cells + 1) (slots + 6) Q (F0 m 2002 ls [])) : W p l e room_1 s m #[Value.ref b] below meth c H locs cells slots Q (F0 m 942 ls []) := by
  obtain ⟨hx, hb, hml, hown, hts, hK, hN, hXW, hNC, hX, hbl, hL⟩ := C
  obtain ⟨S, R, Y, G, Z, N, T, M, hs, f, hI, hP, hD⟩ := I
  have hA : ∀ q : Nat, s.heap.size ≤ q → (fun q : Nat => s.heap.size ≤ q) q := fun _ h => h
  have hK3 := hK.sub (tys' := tyS cI cZ cS) [0, 1, 2] rfl
  have hc0 : cells ≤ 601024 := Nat.le_trans (Nat.le_add_right _ _) hc
  have hsl0 : slots ≤ 7293034 := Nat.le_trans (Nat.le_add_right _ _) hsl
  obtain ⟨r0, M9, e6, e7, hI⟩ := st_firstError hI
  refine lv_aload_n hx hb dL_law_942 rfl (lv_at hl 1 rfl) ?_
  refine va_calli (va_runV (As := []) (rest := []) ⟨hx, hb, hml, hown, hts⟩ (met_X6_firstError l dC dI cI cZ cS aF aN aT aL aO aH ah aP aX T H.size) (cwV 0 hts gL_law_X6_firstError rfl rfl rfl (by decide +kernel) ⟨(Nat.le_of_ble_eq_true rfl), (Nat.le_of_ble_eq_true rfl)⟩) (pV (wc := wFm aF aN aT aL aO aH aP aX ++ (wTx cI aX T)) (ci := 6) (q0 := 0) hK3 hP hD hN [0, 98, 99] rfl (by decide) rfl rfl) rfl rfl hl.1 rfl (lv_room (Nat.le_of_ble_eq_true rfl)) dL_law_943 ⟨hc0, hsl0⟩) hS (fun q _ h => a0_in hS hA q h) (a0_in hS hA) (fun r9 u t H1 locs ht hvm hw hB hz1 hk1 hS => ?_)
  clear hB
  have hP := rdk hP hk1
  have hw : r9 = r0 := hw.trans e6
  subst hw
  refine lv_aload_n hx hb dL_law_946 rfl (lv_at hl 2 rfl) ?_
  have hF := va_free (wc := wMo cI aM M hs) hD hS hA [100, 101, 102, 103, 104, 105, 106, 107, 108] rfl
  refine va_calli (va_runV (As := []) (rest := [.int r9]) ⟨hx, hb, hml, hown, hts⟩ (met_X7_firstError l dC dI cI cZ cS aM M hs H1.size _ e7) (cwV 0 hts gL_law_X7_firstError rfl rfl rfl (by decide +kernel) ⟨(Nat.le_of_ble_eq_true rfl), (Nat.le_of_ble_eq_true rfl)⟩) (pV (wc := wMo cI aM M hs) (ci := 7) (q0 := 100) hK3 hP hD hN [100, 101, 102, 103, 104, 105, 106, 107, 108] rfl (by decide) rfl rfl) rfl rfl hl.1 rfl (lv_room (Nat.le_of_ble_eq_true rfl)) dL_law_947 ⟨hc0, hsl0⟩) hS (fun q _ h => hF q h) hF (fun b9 u t H2 locs ht hvm hw hB hz1 hk1 hS => ?_)
  try dsimp only at hw hB
  cases hw
  rw [ht] at hB
  have hB : va_P (dC, dI) vwCl (wMo cI aM M9 hs) H2 := hB
  have hP := wrk2 (w2 := wFm aF aN aT aL aO aH aP aX ++ (wSt cI aN S ++ (wSt cI aT R ++ (wLo cI aL Y ++ (wOu aO aN aL ++ (wHi cS aH ah G ++ (wZs cI ah Z ++ (wSn cI cZ aP N ++ (wTx cI aX T ++ (wMo cI aM M9 hs ++ (wOt cJ ao f))))))))))) (wr := wFm aF aN aT aL aO aH aP aX ++ (wSt cI aN S ++ (wSt cI aT R ++ (wLo cI aL Y ++ (wOu aO aN aL ++ (wHi cS aH ah G ++ (wZs cI ah Z ++ (wSn cI cZ aP N ++ (wTx cI aX T ++ (wOt cJ ao f)))))))))) hP hD [100, 101, 102, 103, 104, 105, 106, 107, 108] [0, 1, 2, 3, 4, 5, 6, 7, 8, 9, 10, 11, 12, 13, 14, 15, 16, 17, 18, 19, 20, 21, 22, 23, 24, 25, 26, 27, 28, 29, 30, 31, 32, 33, 34, 35, 36, 37, 38, 39, 40, 41, 42, 43, 44, 45, 46, 47, 48, 49, 50, 51, 52, 53, 54, 55, 56, 57, 58, 59, 60, 61, 62, 63, 64, 65, 66, 67, 68, 69, 70, 71, 72, 73, 74, 75, 76, 77, 78, 79, 80, 81, 82, 83, 84, 85, 86, 87, 88, 89, 90, 91, 92, 93, 94, 95, 96, 97, 98, 99, 109] rfl rfl (by decide) hk1 hB [0, 1, 2, 3, 4, 5, 6, 7, 8, 9, 10, 11, 12, 13, 14, 15, 16, 17, 18, 19, 20, 21, 22, 23, 24, 25, 26, 27, 28, 29, 30, 31, 32, 33, 34, 35, 36, 37, 38, 39, 40, 41, 42, 43, 44, 45, 46, 47, 48, 49, 50, 51, 52, 53, 54, 55, 56, 57, 58, 59, 60, 61, 62, 63, 64, 65, 66, 67, 68, 69, 70, 71, 72, 73, 74, 75, 76, 77, 78, 79, 80, 81, 82, 83, 84, 85, 86, 87, 88, 89, 90, 91, 92, 93, 94, 95, 96, 97, 98, 99, 101, 102, 103, 104, 105, 106, 107, 108, 109, 100] rfl
  have hD := D_addr (w1 := wFm aF aN aT aL aO aH aP aX ++ (wSt cI aN S ++ (wSt cI aT R ++ (wLo cI aL Y ++ (wOu aO aN aL ++ (wHi cS aH ah G ++ (wZs cI ah Z ++ (wSn cI cZ aP N ++ (wTx cI aX T ++ (wMo cI aM M9 hs ++ (wOt cJ ao f))))))))))) hD rfl
  refine lv_icmp_eq (tgt := 2002) hx hb dL_law_950 (by decide) (fun _ => ?_) (fun q => absurd rfl q)
  refine W.widen (k := cells + 1) (n := slots + 6) (by omega) (by omega) ?_
  exact k _ _ ⟨S, R, Y, G, Z, N, T, M9, hs, f, hI, hP, hD⟩ hS ls (lv_sub hl [0, 1, 2, 3, 4] rfl)
set_option maxHeartbeats 4000000 in
set_option maxRecDepth 100000 in
theorem law_c_usedShare {p : Program} {e : Env} {s : State} {m : MethodId} {below : List Frame} {meth : Method} {c : Code} {Q : State → Prop} (l : Launch) (hfl : l.stackTraces = false) {dC : Nat → ClassId} {dI : Nat → Nat → Nat} {cI cZ cS cJ : ClassId} {b L : Nat} {xs : Nat → Int32} {aF aN aT aL aO aH : Nat → Nat} {ah : Nat → Nat → Nat} {aP aX aM : Nat → Nat} {ao : Nat} (C : LC dC dI cI cZ cS cJ p s m c b L xs) {i : Nat} (hi : i + 5 ≤ L) {cells slots : Nat} (hc : cells + 1 ≤ 601024) (hsl : slots + 6 ≤ 7293034) {H : Heap} {locs : List Loc} (I : LI dC dI cI cZ cS cJ aF aN aT aL aO aH ah aP aX aM ao s H) (hS : va_S (fun q : Nat => s.heap.size ≤ q) s.heap H locs) {ls : Array Slot} (hl : lv_has ls 9 [(0, .ref b), (1, .ref (aF 0)), (2, .ref (aM 0)), (3, .ref ao), (4, .int (nI i))])
    (k : ∀ (H : Heap) (locs : List Loc), LI dC dI cI cZ cS cJ aF aN aT aL aO aH ah aP aX aM ao s H → va_S (fun q : Nat => s.heap.size ≤ q) s.heap H locs → ∀ ls : Array Slot, lv_has ls 9 [(0, .ref b), (1, .ref (aF 0)), (2, .ref (aM 0)), (3, .ref ao), (4, .int (nI i))] → W p l e room_1 s m #[Value.ref b] below meth c H locs (cells + 1) (slots + 6) Q (F0 m 2002 ls [])) : W p l e room_1 s m #[Value.ref b] below meth c H locs cells slots Q (F0 m 1947 ls []) := by
  obtain ⟨hx, hb, hml, hown, hts, hK, hN, hXW, hNC, hX, hbl, hL⟩ := C
  obtain ⟨S, R, Y, G, Z, N, T, M, hs, f, hI, hP, hD⟩ := I
  have hA : ∀ q : Nat, s.heap.size ≤ q → (fun q : Nat => s.heap.size ≤ q) q := fun _ h => h
  have hK3 := hK.sub (tys' := tyS cI cZ cS) [0, 1, 2] rfl
  have hc0 : cells ≤ 601024 := Nat.le_trans (Nat.le_add_right _ _) hc
  have hsl0 : slots ≤ 7293034 := Nat.le_trans (Nat.le_add_right _ _) hsl
  obtain ⟨z0, Y9, M9, e6, e7, hI⟩ := st_usedShare hI Y
  refine lv_aload_n hx hb dL_law_1947 rfl (lv_at hl 1 rfl) ?_
  have hF := va_free (wc := wFm aF aN aT aL aO aH aP aX ++ (wSt cI aN S ++ (wLo cI aL Y))) hD hS hA [0, 1, 2, 3, 4, 5, 6, 7, 8, 9, 10, 11, 23, 24, 25] rfl
  refine va_calld (va_runV (As := []) (rest := []) ⟨hx, hb, hml, hown, hts⟩ (met_X6_usedShare l dC dI cI cZ cS aF aN aT aL aO aH ah aP aX S Y H.size (z0, Y9) e6) (cwV 0 hts gL_law_X6_usedShare rfl rfl rfl (by decide +kernel) ⟨(Nat.le_of_ble_eq_true rfl), (Nat.le_of_ble_eq_true rfl)⟩) (pV (wc := wFm aF aN aT aL aO aH aP aX ++ (wSt cI aN S ++ (wLo cI aL Y))) (ci := 6) (q0 := 0) hK3 hP hD hN [0, 1, 2, 3, 4, 5, 6, 7, 8, 9, 10, 11, 23, 24, 25] rfl (by decide) rfl rfl) rfl rfl hl.1 rfl (lv_room (Nat.le_of_ble_eq_true rfl)) dL_law_1948 ⟨hc0, hsl0⟩) hS (fun q _ h => hF q h) hF (fun r9 u t H1 locs ht hvm hw hB hz1 hk1 hS => ?_)
  try dsimp only at hw hB
  cases hw
  rw [ht] at hB
  have hB : va_P (dC, dI) vwCl (wFm aF aN aT aL aO aH aP aX ++ (wSt cI aN S ++ (wLo cI aL Y9))) H1 := hB
  have hP := wrk2 (w2 := wFm aF aN aT aL aO aH aP aX ++ (wSt cI aN S ++ (wSt cI aT R ++ (wLo cI aL Y9 ++ (wOu aO aN aL ++ (wHi cS aH ah G ++ (wZs cI ah Z ++ (wSn cI cZ aP N ++ (wTx cI aX T ++ (wMo cI aM M hs ++ (wOt cJ ao f))))))))))) (wr := wSt cI aT R ++ (wOu aO aN aL ++ (wHi cS aH ah G ++ (wZs cI ah Z ++ (wSn cI cZ aP N ++ (wTx cI aX T ++ (wMo cI aM M hs ++ (wOt cJ ao f)))))))) hP hD [0, 1, 2, 3, 4, 5, 6, 7, 8, 9, 10, 11, 23, 24, 25] [12, 13, 14, 15, 16, 17, 18, 19, 20, 21, 22, 26, 27, 28, 29, 30, 31, 32, 33, 34, 35, 36, 37, 38, 39, 40, 41, 42, 43, 44, 45, 46, 47, 48, 49, 50, 51, 52, 53, 54, 55, 56, 57, 58, 59, 60, 61, 62, 63, 64, 65, 66, 67, 68, 69, 70, 71, 72, 73, 74, 75, 76, 77, 78, 79, 80, 81, 82, 83, 84, 85, 86, 87, 88, 89, 90, 91, 92, 93, 94, 95, 96, 97, 98, 99, 100, 101, 102, 103, 104, 105, 106, 107, 108, 109] rfl rfl (by decide) hk1 hB [95, 96, 97, 98, 99, 100, 101, 102, 103, 104, 105, 106, 0, 1, 2, 3, 4, 5, 6, 7, 8, 9, 10, 107, 108, 109, 11, 12, 13, 14, 15, 16, 17, 18, 19, 20, 21, 22, 23, 24, 25, 26, 27, 28, 29, 30, 31, 32, 33, 34, 35, 36, 37, 38, 39, 40, 41, 42, 43, 44, 45, 46, 47, 48, 49, 50, 51, 52, 53, 54, 55, 56, 57, 58, 59, 60, 61, 62, 63, 64, 65, 66, 67, 68, 69, 70, 71, 72, 73, 74, 75, 76, 77, 78, 79, 80, 81, 82, 83, 84, 85, 86, 87, 88, 89, 90, 91, 92, 93, 94] rfl
  have hD := D_addr (w1 := wFm aF aN aT aL aO aH aP aX ++ (wSt cI aN S ++ (wSt cI aT R ++ (wLo cI aL Y9 ++ (wOu aO aN aL ++ (wHi cS aH ah G ++ (wZs cI ah Z ++ (wSn cI cZ aP N ++ (wTx cI aX T ++ (wMo cI aM M hs ++ (wOt cJ ao f))))))))))) hD rfl
  refine lv_dstore (lv' := [(5, .double z0), (0, .ref b), (1, .ref (aF 0)), (2, .ref (aM 0)), (3, .ref ao), (4, .int (nI i))]) hx hb dL_law_1951 hl (by decide) rfl (fun ls hl => ?_)
  refine lv_aload_n hx hb dL_law_1953 rfl (lv_at hl 3 rfl) ?_
  have hF := va_free (wc := wMo cI aM M hs) hD hS hA [100, 101, 102, 103, 104, 105, 106, 107, 108] rfl
  refine va_calld (va_runV (As := []) (rest := []) ⟨hx, hb, hml, hown, hts⟩ (met_X7_usedShare l dC dI cI cZ cS aM M hs H1.size _ e7) (cwV 0 hts gL_law_X7_usedShare rfl rfl rfl (by decide +kernel) ⟨(Nat.le_of_ble_eq_true rfl), (Nat.le_of_ble_eq_true rfl)⟩) (pV (wc := wMo cI aM M hs) (ci := 7) (q0 := 100) hK3 hP hD hN [100, 101, 102, 103, 104, 105, 106, 107, 108] rfl (by decide) rfl rfl) rfl rfl hl.1 rfl (lv_room (Nat.le_of_ble_eq_true rfl)) dL_law_1954 ⟨hc0, hsl0⟩) hS (fun q _ h => hF q h) hF (fun b9 u t H2 locs ht hvm hw hB hz1 hk1 hS => ?_)
  try dsimp only at hw hB
  cases hw
  rw [ht] at hB
  have hB : va_P (dC, dI) vwCl (wMo cI aM M9 hs) H2 := hB
  have hP := wrk2 (w2 := wFm aF aN aT aL aO aH aP aX ++ (wSt cI aN S ++ (wSt cI aT R ++ (wLo cI aL Y9 ++ (wOu aO aN aL ++ (wHi cS aH ah G ++ (wZs cI ah Z ++ (wSn cI cZ aP N ++ (wTx cI aX T ++ (wMo cI aM M9 hs ++ (wOt cJ ao f))))))))))) (wr := wFm aF aN aT aL aO aH aP aX ++ (wSt cI aN S ++ (wSt cI aT R ++ (wLo cI aL Y9 ++ (wOu aO aN aL ++ (wHi cS aH ah G ++ (wZs cI ah Z ++ (wSn cI cZ aP N ++ (wTx cI aX T ++ (wOt cJ ao f)))))))))) hP hD [100, 101, 102, 103, 104, 105, 106, 107, 108] [0, 1, 2, 3, 4, 5, 6, 7, 8, 9, 10, 11, 12, 13, 14, 15, 16, 17, 18, 19, 20, 21, 22, 23, 24, 25, 26, 27, 28, 29, 30, 31, 32, 33, 34, 35, 36, 37, 38, 39, 40, 41, 42, 43, 44, 45, 46, 47, 48, 49, 50, 51, 52, 53, 54, 55, 56, 57, 58, 59, 60, 61, 62, 63, 64, 65, 66, 67, 68, 69, 70, 71, 72, 73, 74, 75, 76, 77, 78, 79, 80, 81, 82, 83, 84, 85, 86, 87, 88, 89, 90, 91, 92, 93, 94, 95, 96, 97, 98, 99, 109] rfl rfl (by decide) hk1 hB [0, 1, 2, 3, 4, 5, 6, 7, 8, 9, 10, 11, 12, 13, 14, 15, 16, 17, 18, 19, 20, 21, 22, 23, 24, 25, 26, 27, 28, 29, 30, 31, 32, 33, 34, 35, 36, 37, 38, 39, 40, 41, 42, 43, 44, 45, 46, 47, 48, 49, 50, 51, 52, 53, 54, 55, 56, 57, 58, 59, 60, 61, 62, 63, 64, 65, 66, 67, 68, 69, 70, 71, 72, 73, 74, 75, 76, 77, 78, 79, 80, 81, 82, 83, 84, 85, 86, 87, 88, 89, 90, 91, 92, 93, 94, 95, 96, 97, 98, 99, 101, 102, 103, 104, 105, 106, 107, 108, 109, 100] rfl
  have hD := D_addr (w1 := wFm aF aN aT aL aO aH aP aX ++ (wSt cI aN S ++ (wSt cI aT R ++ (wLo cI aL Y9 ++ (wOu aO aN aL ++ (wHi cS aH ah G ++ (wZs cI ah Z ++ (wSn cI cZ aP N ++ (wTx cI aX T ++ (wMo cI aM M9 hs ++ (wOt cJ ao f))))))))))) hD rfl
  refine lv_dstore (lv' := [(7, .double z0), (5, .double z0), (0, .ref b), (1, .ref (aF 0)), (2, .ref (aM 0)), (3, .ref ao), (4, .int (nI i))]) hx hb dL_law_1957 hl (by decide) rfl (fun ls hl => ?_)
  refine lv_dload hx hb dL_law_1959 (lv_at hl 1 rfl) ?_
  refine lv_dload hx hb dL_law_1961 (lv_at hl 0 rfl) ?_
  refine lv_dcmp hx hb dL_law_1963 ?_
  refine lv_if_eq (tgt := 1985) hx hb dL_law_1964 (by decide) (fun _ => ?_) (fun q9 => ?_)
  · refine lv_goto (tgt := 2002) hx hb dL_law_1985 (by decide) ?_
    refine W.widen (k := cells + 1) (n := slots + 6) (by omega) (by omega) ?_
    exact k _ _ ⟨S, R, Y9, G, Z, N, T, M9, hs, f, hI, hP, hD⟩ hS ls (lv_sub hl [2, 3, 4, 5, 6] rfl)
  · refine lv_dload hx hb dL_law_1967 (lv_at hl 1 rfl) ?_
    refine lv_dload hx hb dL_law_1969 (lv_at hl 1 rfl) ?_
    refine lv_dcmp hx hb dL_law_1971 ?_
    refine lv_if_eq (tgt := 1983) hx hb dL_law_1972 (by decide) (fun q => absurd q q9) (fun _ => ?_)
    refine lv_dload hx hb dL_law_1975 (lv_at hl 0 rfl) ?_
    refine lv_dload hx hb dL_law_1977 (lv_at hl 0 rfl) ?_
    refine lv_dcmp hx hb dL_law_1979 ?_
    refine lv_if_ne (tgt := 1985) hx hb dL_law_1980 (by decide) (fun _ => ?_) (fun q => absurd q q9)
    refine lv_goto (tgt := 2002) hx hb dL_law_1985 (by decide) ?_
    refine W.widen (k := cells + 1) (n := slots + 6) (by omega) (by omega) ?_
    exact k _ _ ⟨S, R, Y9, G, Z, N, T, M9, hs, f, hI, hP, hD⟩ hS ls (lv_sub hl [2, 3, 4, 5, 6] rfl)
set_option maxHeartbeats 4000000 in
set_option maxRecDepth 100000 in
theorem law_c_digest {p : Program} {e : Env} {s : State} {m : MethodId} {below : List Frame} {meth : Method} {c : Code} {Q : State → Prop} (l : Launch) (hfl : l.stackTraces = false) {dC : Nat → ClassId} {dI : Nat → Nat → Nat} {cI cZ cS cJ : ClassId} {b L : Nat} {xs : Nat → Int32} {aF aN aT aL aO aH : Nat → Nat} {ah : Nat → Nat → Nat} {aP aX aM : Nat → Nat} {ao : Nat} (C : LC dC dI cI cZ cS cJ p s m c b L xs) {i : Nat} (hi : i + 5 ≤ L) {cells slots : Nat} (hc : cells + 1 ≤ 601024) (hsl : slots + 6 ≤ 7293034) {H : Heap} {locs : List Loc} (I : LI dC dI cI cZ cS cJ aF aN aT aL aO aH ah aP aX aM ao s H) (hS : va_S (fun q : Nat => s.heap.size ≤ q) s.heap H locs) {ls : Array Slot} (hl : lv_has ls 9 [(0, .ref b), (1, .ref (aF 0)), (2, .ref (aM 0)), (3, .ref ao), (4, .int (nI i))])
    (k : ∀ (H : Heap) (locs : List Loc), LI dC dI cI cZ cS cJ aF aN aT aL aO aH ah aP aX aM ao s H → va_S (fun q : Nat => s.heap.size ≤ q) s.heap H locs → ∀ ls : Array Slot, lv_has ls 9 [(0, .ref b), (1, .ref (aF 0)), (2, .ref (aM 0)), (3, .ref ao), (4, .int (nI i))] → W p l e room_1 s m #[Value.ref b] below meth c H locs (cells + 1) (slots + 6) Q (F0 m 2002 ls [])) : W p l e room_1 s m #[Value.ref b] below meth c H locs cells slots Q (F0 m 1988 ls []) := by
  obtain ⟨hx, hb, hml, hown, hts, hK, hN, hXW, hNC, hX, hbl, hL⟩ := C
  obtain ⟨S, R, Y, G, Z, N, T, M, hs, f, hI, hP, hD⟩ := I
  have hA : ∀ q : Nat, s.heap.size ≤ q → (fun q : Nat => s.heap.size ≤ q) q := fun _ h => h
  have hK3 := hK.sub (tys' := tyS cI cZ cS) [0, 1, 2] rfl
  have hc0 : cells ≤ 601024 := Nat.le_trans (Nat.le_add_right _ _) hc
  have hsl0 : slots ≤ 7293034 := Nat.le_trans (Nat.le_add_right _ _) hsl
  obtain ⟨d0, Y9, M9, e6, e7, hI⟩ := st_digest hI Y hs
  refine lv_aload_n hx hb dL_law_1988 rfl (lv_at hl 1 rfl) ?_
  have hF := va_free (wc := wFm aF aN aT aL aO aH aP aX ++ (wSt cI aN S ++ (wLo cI aL Y ++ (wOu aO aN aL ++ (wHi cS aH ah G ++ (wSn cI cZ aP N ++ (wTx cI aX T))))))) hD hS hA [0, 1, 2, 3, 4, 5, 6, 7, 8, 9, 10, 11, 23, 24, 25, 26, 27, 28, 95, 96, 97, 98, 99] rfl
  refine va_calll (va_runV (As := []) (rest := []) ⟨hx, hb, hml, hown, hts⟩ (met_X6_digest l dC dI cI cZ cS aF aN aT aL aO aH ah aP aX S Y G N T H.size (d0, S, Y9) e6) (cwV 0 hts gL_law_X6_digest rfl rfl rfl (by decide +kernel) ⟨(Nat.le_of_ble_eq_true rfl), (Nat.le_of_ble_eq_true rfl)⟩) (pV (wc := wFm aF aN aT aL aO aH aP aX ++ (wSt cI aN S ++ (wLo cI aL Y ++ (wOu aO aN aL ++ (wHi cS aH ah G ++ (wSn cI cZ aP N ++ (wTx cI aX T))))))) (ci := 6) (q0 := 0) hK3 hP hD hN [0, 1, 2, 3, 4, 5, 6, 7, 8, 9, 10, 11, 23, 24, 25, 26, 27, 28, 95, 96, 97, 98, 99] rfl (by decide) rfl rfl) rfl rfl hl.1 rfl (lv_room (Nat.le_of_ble_eq_true rfl)) dL_law_1989 ⟨hc0, hsl0⟩) hS (fun q _ h => hF q h) hF (fun r9 u t H1 locs ht hvm hw hB hz1 hk1 hS => ?_)
  try dsimp only at hw hB
  cases hw
  rw [ht] at hB
  have hB : va_P (dC, dI) vwCl (wFm aF aN aT aL aO aH aP aX ++ (wSt cI aN S ++ (wLo cI aL Y9 ++ (wOu aO aN aL ++ (wHi cS aH ah G ++ (wSn cI cZ aP N ++ (wTx cI aX T))))))) H1 := hB
  have hP := wrk2 (w2 := wFm aF aN aT aL aO aH aP aX ++ (wSt cI aN S ++ (wSt cI aT R ++ (wLo cI aL Y9 ++ (wOu aO aN aL ++ (wHi cS aH ah G ++ (wZs cI ah Z ++ (wSn cI cZ aP N ++ (wTx cI aX T ++ (wMo cI aM M hs ++ (wOt cJ ao f))))))))))) (wr := wSt cI aT R ++ (wZs cI ah Z ++ (wMo cI aM M hs ++ (wOt cJ ao f)))) hP hD [0, 1, 2, 3, 4, 5, 6, 7, 8, 9, 10, 11, 23, 24, 25, 26, 27, 28, 95, 96, 97, 98, 99] [12, 13, 14, 15, 16, 17, 18, 19, 20, 21, 22, 29, 30, 31, 32, 33, 34, 35, 36, 37, 38, 39, 40, 41, 42, 43, 44, 45, 46, 47, 48, 49, 50, 51, 52, 53, 54, 55, 56, 57, 58, 59, 60, 61, 62, 63, 64, 65, 66, 67, 68, 69, 70, 71, 72, 73, 74, 75, 76, 77, 78, 79, 80, 81, 82, 83, 84, 85, 86, 87, 88, 89, 90, 91, 92, 93, 94, 100, 101, 102, 103, 104, 105, 106, 107, 108, 109] rfl rfl (by decide) hk1 hB [87, 88, 89, 90, 91, 92, 93, 94, 95, 96, 97, 98, 0, 1, 2, 3, 4, 5, 6, 7, 8, 9, 10, 99, 100, 101, 102, 103, 104, 11, 12, 13, 14, 15, 16, 17, 18, 19, 20, 21, 22, 23, 24, 25, 26, 27, 28, 29, 30, 31, 32, 33, 34, 35, 36, 37, 38, 39, 40, 41, 42, 43, 44, 45, 46, 47, 48, 49, 50, 51, 52, 53, 54, 55, 56, 57, 58, 59, 60, 61, 62, 63, 64, 65, 66, 67, 68, 69, 70, 71, 72, 73, 74, 75, 76, 105, 106, 107, 108, 109, 77, 78, 79, 80, 81, 82, 83, 84, 85, 86] rfl
  have hD := D_addr (w1 := wFm aF aN aT aL aO aH aP aX ++ (wSt cI aN S ++ (wSt cI aT R ++ (wLo cI aL Y9 ++ (wOu aO aN aL ++ (wHi cS aH ah G ++ (wZs cI ah Z ++ (wSn cI cZ aP N ++ (wTx cI aX T ++ (wMo cI aM M hs ++ (wOt cJ ao f))))))))))) hD rfl
  refine lv_aload_n hx hb dL_law_1992 rfl (lv_at hl 2 rfl) ?_
  have hF := va_free (wc := wMo cI aM M hs) hD hS hA [100, 101, 102, 103, 104, 105, 106, 107, 108] rfl
  refine va_calll (va_runV (As := []) (rest := [.long d0]) ⟨hx, hb, hml, hown, hts⟩ (met_X7_digest l dC dI cI cZ cS aM M hs H1.size _ e7) (cwV 0 hts gL_law_X7_digest rfl rfl rfl (by decide +kernel) ⟨(Nat.le_of_ble_eq_true rfl), (Nat.le_of_ble_eq_true rfl)⟩) (pV (wc := wMo cI aM M hs) (ci := 7) (q0 := 100) hK3 hP hD hN [100, 101, 102, 103, 104, 105, 106, 107, 108] rfl (by decide) rfl rfl) rfl rfl hl.1 rfl (lv_room (Nat.le_of_ble_eq_true rfl)) dL_law_1993 ⟨hc0, hsl0⟩) hS (fun q _ h => hF q h) hF (fun b9 u t H2 locs ht hvm hw hB hz1 hk1 hS => ?_)
  try dsimp only at hw hB
  cases hw
  rw [ht] at hB
  have hB : va_P (dC, dI) vwCl (wMo cI aM M9 d0) H2 := hB
  have hP := wrk2 (w2 := wFm aF aN aT aL aO aH aP aX ++ (wSt cI aN S ++ (wSt cI aT R ++ (wLo cI aL Y9 ++ (wOu aO aN aL ++ (wHi cS aH ah G ++ (wZs cI ah Z ++ (wSn cI cZ aP N ++ (wTx cI aX T ++ (wMo cI aM M9 d0 ++ (wOt cJ ao f))))))))))) (wr := wFm aF aN aT aL aO aH aP aX ++ (wSt cI aN S ++ (wSt cI aT R ++ (wLo cI aL Y9 ++ (wOu aO aN aL ++ (wHi cS aH ah G ++ (wZs cI ah Z ++ (wSn cI cZ aP N ++ (wTx cI aX T ++ (wOt cJ ao f)))))))))) hP hD [100, 101, 102, 103, 104, 105, 106, 107, 108] [0, 1, 2, 3, 4, 5, 6, 7, 8, 9, 10, 11, 12, 13, 14, 15, 16, 17, 18, 19, 20, 21, 22, 23, 24, 25, 26, 27, 28, 29, 30, 31, 32, 33, 34, 35, 36, 37, 38, 39, 40, 41, 42, 43, 44, 45, 46, 47, 48, 49, 50, 51, 52, 53, 54, 55, 56, 57, 58, 59, 60, 61, 62, 63, 64, 65, 66, 67, 68, 69, 70, 71, 72, 73, 74, 75, 76, 77, 78, 79, 80, 81, 82, 83, 84, 85, 86, 87, 88, 89, 90, 91, 92, 93, 94, 95, 96, 97, 98, 99, 109] rfl rfl (by decide) hk1 hB [0, 1, 2, 3, 4, 5, 6, 7, 8, 9, 10, 11, 12, 13, 14, 15, 16, 17, 18, 19, 20, 21, 22, 23, 24, 25, 26, 27, 28, 29, 30, 31, 32, 33, 34, 35, 36, 37, 38, 39, 40, 41, 42, 43, 44, 45, 46, 47, 48, 49, 50, 51, 52, 53, 54, 55, 56, 57, 58, 59, 60, 61, 62, 63, 64, 65, 66, 67, 68, 69, 70, 71, 72, 73, 74, 75, 76, 77, 78, 79, 80, 81, 82, 83, 84, 85, 86, 87, 88, 89, 90, 91, 92, 93, 94, 95, 96, 97, 98, 99, 101, 102, 103, 104, 105, 106, 107, 108, 109, 100] rfl
  have hD := D_addr (w1 := wFm aF aN aT aL aO aH aP aX ++ (wSt cI aN S ++ (wSt cI aT R ++ (wLo cI aL Y9 ++ (wOu aO aN aL ++ (wHi cS aH ah G ++ (wZs cI ah Z ++ (wSn cI cZ aP N ++ (wTx cI aX T ++ (wMo cI aM M9 d0 ++ (wOt cJ ao f))))))))))) hD rfl
  refine W.lcmp hx hb dL_law_1996 ?_
  rw [lg_cmp_self]
  refine lv_if_eq (tgt := 2002) hx hb dL_law_1997 (by decide) (fun _ => ?_) (fun q => absurd rfl q)
  refine W.widen (k := cells + 1) (n := slots + 6) (by omega) (by omega) ?_
  exact k _ _ ⟨S, R, Y9, G, Z, N, T, M9, d0, f, hI, hP, hD⟩ hS ls (lv_sub hl [0, 1, 2, 3, 4] rfl)
