set_option maxHeartbeats 4000000 in
set_option maxRecDepth 100000 in
theorem law_c_addDish {p : Program} {e : Env} {s : State} {m : MethodId} {below : List Frame} {meth : Method} {c : Code} {Q : State → Prop} (l : Launch) (hfl : l.stackTraces = false) {dC : Nat → ClassId} {dI : Nat → Nat → Nat} {cI cZ cS cJ : ClassId} {b L : Nat} {xs : Nat → Int32} {aF aN aT aL aO aH : Nat → Nat} {ah : Nat → Nat → Nat} {aP aX aM : Nat → Nat} {ao : Nat} (C : LC dC dI cI cZ cS cJ p s m c b L xs) {i : Nat} (hi : i + 5 ≤ L) {cells slots : Nat} (hc : cells + 1 ≤ 601024) (hsl : slots + 6 ≤ 7293034) {H : Heap} {locs : List Loc} (I : LI dC dI cI cZ cS cJ aF aN aT aL aO aH ah aP aX aM ao s H) (hS : va_S (fun q : Nat => s.heap.size ≤ q) s.heap H locs) {ls : Array Slot} (hl : lv_has ls 9 [(0, .ref b), (1, .ref (aF 0)), (2, .ref (aM 0)), (3, .ref ao), (4, .int (nI i))])
    (k : ∀ (H : Heap) (locs : List Loc), LI dC dI cI cZ cS cJ aF aN aT aL aO aH ah aP aX aM ao s H → va_S (fun q : Nat => s.heap.size ≤ q) s.heap H locs → ∀ ls : Array Slot, lv_has ls 9 [(0, .ref b), (1, .ref (aF 0)), (2, .ref (aM 0)), (3, .ref ao), (4, .int (nI i))] → W p l e room_1 s m #[Value.ref b] below meth c H locs (cells + 1) (slots + 6) Q (F0 m 2002 ls [])) : W p l e room_1 s m #[Value.ref b] below meth c H locs cells slots Q (F0 m 180 ls []) := by
  obtain ⟨hx, hb, hml, hown, hts, hK, hN, hXW, hNC, hX, hbl, hL⟩ := C
  obtain ⟨S, R, Y, G, Z, N, T, M, hs, f, hI, hP, hD⟩ := I
  have hA : ∀ q : Nat, s.heap.size ≤ q → (fun q : Nat => s.heap.size ≤ q) q := fun _ h => h
  have hK3 := hK.sub (tys' := tyS cI cZ cS) [0, 1, 2] rfl
  obtain ⟨c0, r0, S9, G9, Z9, b0, M9, e6, e7, hI, hAn⟩ := st_addDish hI (xs (i + 1)) (xs (i + 2)) (xs (i + 3)) (xs (i + 4))
  refine lv_aload_n hx hb dL_law_180 rfl (lv_at hl 1 rfl) ?_
  refine law_rd (k := 1) hx hb hX hbl hS hi hL (by decide) (by decide) (lv_at hl 0 rfl) (lv_at hl 4 rfl) dL_law_181 dL_law_182 dL_law_184 dL_law_185 dL_law_186 ?_
  refine law_rd (k := 2) hx hb hX hbl hS hi hL (by decide) (by decide) (lv_at hl 0 rfl) (lv_at hl 4 rfl) dL_law_187 dL_law_188 dL_law_190 dL_law_191 dL_law_192 ?_
  refine law_rd (k := 3) hx hb hX hbl hS hi hL (by decide) (by decide) (lv_at hl 0 rfl) (lv_at hl 4 rfl) dL_law_193 dL_law_194 dL_law_196 dL_law_197 dL_law_198 ?_
  refine law_rd (k := 4) hx hb hX hbl hS hi hL (by decide) (by decide) (lv_at hl 0 rfl) (lv_at hl 4 rfl) dL_law_199 dL_law_200 dL_law_202 dL_law_203 dL_law_204 ?_
  refine lv_aload_n hx hb dL_law_205 rfl (lv_at hl 3 rfl) ?_
  have hF := va_free (wc := (wFm aF aN aT aL aO aH aP aX ++ (wSt cI aN S ++ (wHi cS aH ah G ++ (wZs cI ah Z)))) ++ wOt cJ ao f) hD hS hA [0, 1, 2, 3, 4, 5, 6, 7, 8, 9, 10, 11, 27, 28, 29, 30, 31, 32, 33, 34, 35, 36, 37, 38, 39, 40, 41, 42, 43, 44, 45, 46, 47, 48, 49, 50, 51, 52, 53, 54, 55, 56, 57, 58, 59, 60, 61, 62, 63, 64, 65, 66, 67, 68, 69, 70, 71, 72, 73, 74, 75, 76, 77, 78, 79, 80, 81, 82, 83, 84, 85, 86, 87, 88, 89, 90, 91, 92, 93, 94, 109] rfl
  refine va_calli (vx_runSW (As := [.ref (aF 0), .int (xs (i + 1)), .int (xs (i + 2)), .int (xs (i + 3)), .int (xs (i + 4)), .ref ao]) (rest := []) ⟨hx, hb, hml, hown, hts⟩ (met_L_addDish l hfl dC dI cI cZ cS cJ aF aN aT aL aO aH ah aP aX ao f S G Z s.heap.size H.size (xs (i + 1)) (xs (i + 2)) (xs (i + 3)) (xs (i + 4)) (c0, r0, S9, G9, Z9) e6 (fun c r q => by obtain ⟨u, hu⟩ := q; cases hu; exact an_ks hAn)) (vx_cwSW 6 hts gL_law_L_addDish rfl rfl rfl (by decide +kernel) ⟨(Nat.le_of_ble_eq_true rfl), (Nat.le_of_ble_eq_true rfl)⟩) (pLS (wc := (wFm aF aN aT aL aO aH aP aX ++ (wSt cI aN S ++ (wHi cS aH ah G ++ (wZs cI ah Z)))) ++ wOt cJ ao f) hK hP hD hN hXW hNC hS [0, 1, 2, 3, 4, 5, 6, 7, 8, 9, 10, 11, 27, 28, 29, 30, 31, 32, 33, 34, 35, 36, 37, 38, 39, 40, 41, 42, 43, 44, 45, 46, 47, 48, 49, 50, 51, 52, 53, 54, 55, 56, 57, 58, 59, 60, 61, 62, 63, 64, 65, 66, 67, 68, 69, 70, 71, 72, 73, 74, 75, 76, 77, 78, 79, 80, 81, 82, 83, 84, 85, 86, 87, 88, 89, 90, 91, 92, 93, 94, 109] rfl (by decide)) rfl rfl hl.1 rfl (lv_room (Nat.le_of_ble_eq_true rfl)) dL_law_206 ⟨hc, hsl⟩) hS (fun q _ h => hF q h) hF (fun k9 u t H1 locs ht hvm hw hB hz1 hk1 hS => ?_)
  obtain ⟨u1, f9⟩ := u
  obtain ⟨c1, r1, hcr, hwr⟩ := hw
  try dsimp only at hcr hwr
  cases hcr
  have hcm := an_wrp (by decide) (by decide) (by decide) hwr hAn
  rw [ht] at hB
  have hB : va_P (dC, dI) vwCl ((wFm aF aN aT aL aO aH aP aX ++ (wSt cI aN S9 ++ (wHi cS aH ah G9 ++ (wZs cI ah Z9)))) ++ wOt cJ ao f9) H1 := hB
  have hP := wrk2 (w2 := wFm aF aN aT aL aO aH aP aX ++ (wSt cI aN S9 ++ (wSt cI aT R ++ (wLo cI aL Y ++ (wOu aO aN aL ++ (wHi cS aH ah G9 ++ (wZs cI ah Z9 ++ (wSn cI cZ aP N ++ (wTx cI aX T ++ (wMo cI aM M hs ++ (wOt cJ ao f9))))))))))) (wr := wSt cI aT R ++ (wLo cI aL Y ++ (wOu aO aN aL ++ (wSn cI cZ aP N ++ (wTx cI aX T ++ (wMo cI aM M hs)))))) hP hD [0, 1, 2, 3, 4, 5, 6, 7, 8, 9, 10, 11, 27, 28, 29, 30, 31, 32, 33, 34, 35, 36, 37, 38, 39, 40, 41, 42, 43, 44, 45, 46, 47, 48, 49, 50, 51, 52, 53, 54, 55, 56, 57, 58, 59, 60, 61, 62, 63, 64, 65, 66, 67, 68, 69, 70, 71, 72, 73, 74, 75, 76, 77, 78, 79, 80, 81, 82, 83, 84, 85, 86, 87, 88, 89, 90, 91, 92, 93, 94, 109] [12, 13, 14, 15, 16, 17, 18, 19, 20, 21, 22, 23, 24, 25, 26, 95, 96, 97, 98, 99, 100, 101, 102, 103, 104, 105, 106, 107, 108] rfl rfl (by decide) hk1 hB [29, 30, 31, 32, 33, 34, 35, 36, 37, 38, 39, 40, 0, 1, 2, 3, 4, 5, 6, 7, 8, 9, 10, 11, 12, 13, 14, 41, 42, 43, 44, 45, 46, 47, 48, 49, 50, 51, 52, 53, 54, 55, 56, 57, 58, 59, 60, 61, 62, 63, 64, 65, 66, 67, 68, 69, 70, 71, 72, 73, 74, 75, 76, 77, 78, 79, 80, 81, 82, 83, 84, 85, 86, 87, 88, 89, 90, 91, 92, 93, 94, 95, 96, 97, 98, 99, 100, 101, 102, 103, 104, 105, 106, 107, 108, 15, 16, 17, 18, 19, 20, 21, 22, 23, 24, 25, 26, 27, 28, 109] rfl
  have hD := D_addr (w1 := wFm aF aN aT aL aO aH aP aX ++ (wSt cI aN S9 ++ (wSt cI aT R ++ (wLo cI aL Y ++ (wOu aO aN aL ++ (wHi cS aH ah G9 ++ (wZs cI ah Z9 ++ (wSn cI cZ aP N ++ (wTx cI aX T ++ (wMo cI aM M hs ++ (wOt cJ ao f9))))))))))) hD rfl
  refine lv_istore (lv' := [(5, .int k9), (0, .ref b), (1, .ref (aF 0)), (2, .ref (aM 0)), (3, .ref ao), (4, .int (nI i))]) hx hb dL_law_209 hl (by decide) rfl (fun ls hl => ?_)
  refine lv_aload_n hx hb dL_law_211 rfl (lv_at hl 3 rfl) ?_
  refine law_rd (k := 1) hx hb hX hbl hS hi hL (by decide) (by decide) (lv_at hl 1 rfl) (lv_at hl 5 rfl) dL_law_212 dL_law_213 dL_law_215 dL_law_216 dL_law_217 ?_
  refine law_rd (k := 2) hx hb hX hbl hS hi hL (by decide) (by decide) (lv_at hl 1 rfl) (lv_at hl 5 rfl) dL_law_218 dL_law_219 dL_law_221 dL_law_222 dL_law_223 ?_
  refine law_rd (k := 3) hx hb hX hbl hS hi hL (by decide) (by decide) (lv_at hl 1 rfl) (lv_at hl 5 rfl) dL_law_224 dL_law_225 dL_law_227 dL_law_228 dL_law_229 ?_
  refine law_rd (k := 4) hx hb hX hbl hS hi hL (by decide) (by decide) (lv_at hl 1 rfl) (lv_at hl 5 rfl) dL_law_230 dL_law_231 dL_law_233 dL_law_234 dL_law_235 ?_
  have hF := va_free (wc := wMo cI aM M hs) hD hS hA [100, 101, 102, 103, 104, 105, 106, 107, 108] rfl
  refine va_calli (va_runV (As := [.int (xs (i + 1)), .int (xs (i + 2)), .int (xs (i + 3)), .int (xs (i + 4))]) (rest := []) ⟨hx, hb, hml, hown, hts⟩ (met_X7_addDish l dC dI cI cZ cS aM M hs H1.size (xs (i + 1)) (xs (i + 2)) (xs (i + 3)) (xs (i + 4)) _ e7) (cwV 4 hts gL_law_X7_addDish rfl rfl rfl (by decide +kernel) ⟨(Nat.le_of_ble_eq_true rfl), (Nat.le_of_ble_eq_true rfl)⟩) (pV (wc := wMo cI aM M hs) (ci := 7) (q0 := 100) hK3 hP hD hN [100, 101, 102, 103, 104, 105, 106, 107, 108] rfl (by decide) rfl rfl) rfl rfl hl.1 rfl (lv_room (Nat.le_of_ble_eq_true rfl)) dL_law_236 ⟨hc, hsl⟩) hS (fun q _ h => hF q h) hF (fun b9 u t H2 locs ht hvm hw hB hz1 hk1 hS => ?_)
  try dsimp only at hw hB
  cases hw
  rw [ht] at hB
  have hP := wrk2 (w2 := wFm aF aN aT aL aO aH aP aX ++ (wSt cI aN S9 ++ (wSt cI aT R ++ (wLo cI aL Y ++ (wOu aO aN aL ++ (wHi cS aH ah G9 ++ (wZs cI ah Z9 ++ (wSn cI cZ aP N ++ (wTx cI aX T ++ (wMo cI aM M9 hs ++ (wOt cJ ao f9))))))))))) (wr := wFm aF aN aT aL aO aH aP aX ++ (wSt cI aN S9 ++ (wSt cI aT R ++ (wLo cI aL Y ++ (wOu aO aN aL ++ (wHi cS aH ah G9 ++ (wZs cI ah Z9 ++ (wSn cI cZ aP N ++ (wTx cI aX T ++ (wOt cJ ao f9)))))))))) hP hD [100, 101, 102, 103, 104, 105, 106, 107, 108] [0, 1, 2, 3, 4, 5, 6, 7, 8, 9, 10, 11, 12, 13, 14, 15, 16, 17, 18, 19, 20, 21, 22, 23, 24, 25, 26, 27, 28, 29, 30, 31, 32, 33, 34, 35, 36, 37, 38, 39, 40, 41, 42, 43, 44, 45, 46, 47, 48, 49, 50, 51, 52, 53, 54, 55, 56, 57, 58, 59, 60, 61, 62, 63, 64, 65, 66, 67, 68, 69, 70, 71, 72, 73, 74, 75, 76, 77, 78, 79, 80, 81, 82, 83, 84, 85, 86, 87, 88, 89, 90, 91, 92, 93, 94, 95, 96, 97, 98, 99, 109] rfl rfl (by decide) hk1 hB [0, 1, 2, 3, 4, 5, 6, 7, 8, 9, 10, 11, 12, 13, 14, 15, 16, 17, 18, 19, 20, 21, 22, 23, 24, 25, 26, 27, 28, 29, 30, 31, 32, 33, 34, 35, 36, 37, 38, 39, 40, 41, 42, 43, 44, 45, 46, 47, 48, 49, 50, 51, 52, 53, 54, 55, 56, 57, 58, 59, 60, 61, 62, 63, 64, 65, 66, 67, 68, 69, 70, 71, 72, 73, 74, 75, 76, 77, 78, 79, 80, 81, 82, 83, 84, 85, 86, 87, 88, 89, 90, 91, 92, 93, 94, 95, 96, 97, 98, 99, 101, 102, 103, 104, 105, 106, 107, 108, 109, 100] rfl
  have hD := D_addr (w1 := wFm aF aN aT aL aO aH aP aX ++ (wSt cI aN S9 ++ (wSt cI aT R ++ (wLo cI aL Y ++ (wOu aO aN aL ++ (wHi cS aH ah G9 ++ (wZs cI ah Z9 ++ (wSn cI cZ aP N ++ (wTx cI aX T ++ (wMo cI aM M9 hs ++ (wOt cJ ao f9))))))))))) hD rfl
  refine lv_istore (lv' := [(6, .int b0), (5, .int k9), (0, .ref b), (1, .ref (aF 0)), (2, .ref (aM 0)), (3, .ref ao), (4, .int (nI i))]) hx hb dL_law_239 hl (by decide) rfl (fun ls hl => ?_)
  refine lv_aload_n hx hb dL_law_241 rfl (lv_at hl 4 rfl) ?_
  refine va_calli (va_runV (As := []) (rest := []) ⟨hx, hb, hml, hown, hts⟩ (met_X7_thrown l dC dI cI cZ cS aM M9 hs H2.size) (cwV 0 hts gL_law_X7_thrown rfl rfl rfl (by decide +kernel) ⟨(Nat.le_of_ble_eq_true rfl), (Nat.le_of_ble_eq_true rfl)⟩) (pV (wc := wMo cI aM M9 hs) (ci := 7) (q0 := 100) hK3 hP hD hN [100, 101, 102, 103, 104, 105, 106, 107, 108] rfl (by decide) rfl rfl) rfl rfl hl.1 rfl (lv_room (Nat.le_of_ble_eq_true rfl)) dL_law_242 ⟨hc, hsl⟩) hS (fun q _ h => a0_in hS hA q h) (a0_in hS hA) (fun r9 u t H3 locs ht hvm hw hB hz1 hk1 hS => ?_)
  clear hB
  have hP := rdk hP hk1
  have hw : r9 = M9 7 0 := hw
  subst hw
  refine lv_iload hx hb dL_law_245 (lv_at hl 1 rfl) ?_
  refine lv_icmp_eq (tgt := 252) hx hb dL_law_247 (by decide) (fun _ => ?_) (fun q => absurd hcm.1.symm q)
  refine lv_iload hx hb dL_law_252 (lv_at hl 1 rfl) ?_
  refine lv_if_ne (tgt := 269) hx hb dL_law_254 (by decide) (fun q9 => ?_) (fun q9 => ?_)
  · refine lv_goto (tgt := 2002) hx hb dL_law_269 (by decide) ?_
    exact k _ _ ⟨S9, R, Y, G9, Z9, N, T, M9, hs, f9, hI, hP, hD⟩ hS ls (lv_sub hl [2, 3, 4, 5, 6] rfl)
  · refine lv_aload_n hx hb dL_law_257 rfl (lv_at hl 5 rfl) ?_
    refine lv_iconst (v := (0 : Int32)) hx hb dL_law_258 (by decide) ?_
    refine va_lald hx hb hK hP 109 3 rfl rfl (by unfold vp_in; decide) dL_law_259 ?_
    refine lv_iload hx hb dL_law_260 (lv_at hl 0 rfl) ?_
    refine lv_i2l (v := b0.toInt64) hx hb dL_law_262 rfl ?_
    rw [show f9 (0 : Int32).toNatClampNeg = b0.toInt64 from hcm.2 q9]
    refine W.lcmp hx hb dL_law_263 ?_
    rw [lg_cmp_self]
    refine lv_if_eq (tgt := 269) hx hb dL_law_264 (by decide) (fun _ => ?_) (fun q => absurd rfl q)
    refine lv_goto (tgt := 2002) hx hb dL_law_269 (by decide) ?_
    exact k _ _ ⟨S9, R, Y, G9, Z9, N, T, M9, hs, f9, hI, hP, hD⟩ hS ls (lv_sub hl [2, 3, 4, 5, 6] rfl)
set_option maxHeartbeats 4000000 in
set_option maxRecDepth 100000 in
theorem law_c_leave {p : Program} {e : Env} {s : State} {m : MethodId} {below : List Frame} {meth : Method} {c : Code} {Q : State → Prop} (l : Launch) (hfl : l.stackTraces = false) {dC : Nat → ClassId} {dI : Nat → Nat → Nat} {cI cZ cS cJ : ClassId} {b L : Nat} {xs : Nat → Int32} {aF aN aT aL aO aH : Nat → Nat} {ah : Nat → Nat → Nat} {aP aX aM : Nat → Nat} {ao : Nat} (C : LC dC dI cI cZ cS cJ p s m c b L xs) {i : Nat} (hi : i + 5 ≤ L) {cells slots : Nat} (hc : cells + 1 ≤ 601024) (hsl : slots + 6 ≤ 7293034) {H : Heap} {locs : List Loc} (I : LI dC dI cI cZ cS cJ aF aN aT aL aO aH ah aP aX aM ao s H) (hS : va_S (fun q : Nat => s.heap.size ≤ q) s.heap H locs) {ls : Array Slot} (hl : lv_has ls 9 [(0, .ref b), (1, .ref (aF 0)), (2, .ref (aM 0)), (3, .ref ao), (4, .int (nI i))])
    (k : ∀ (H : Heap) (locs : List Loc), LI dC dI cI cZ cS cJ aF aN aT aL aO aH ah aP aX aM ao s H → va_S (fun q : Nat => s.heap.size ≤ q) s.heap H locs → ∀ ls : Array Slot, lv_has ls 9 [(0, .ref b), (1, .ref (aF 0)), (2, .ref (aM 0)), (3, .ref ao), (4, .int (nI i))] → W p l e room_1 s m #[Value.ref b] below meth c H locs (cells + 1) (slots + 6) Q (F0 m 2002 ls [])) : W p l e room_1 s m #[Value.ref b] below meth c H locs cells slots Q (F0 m 272 ls []) := by
  obtain ⟨hx, hb, hml, hown, hts, hK, hN, hXW, hNC, hX, hbl, hL⟩ := C
  obtain ⟨S, R, Y, G, Z, N, T, M, hs, f, hI, hP, hD⟩ := I
  have hA : ∀ q : Nat, s.heap.size ≤ q → (fun q : Nat => s.heap.size ≤ q) q := fun _ h => h
  have hK3 := hK.sub (tys' := tyS cI cZ cS) [0, 1, 2] rfl
  obtain ⟨c0, r0, S9, R9, Y9, G9, Z9, b0, M9, e6, e7, hI, hAn⟩ := st_leave hI R Y (xs (i + 1)) (xs (i + 2)) (xs (i + 3))
  refine lv_aload_n hx hb dL_law_272 rfl (lv_at hl 1 rfl) ?_
  refine law_rd (k := 1) hx hb hX hbl hS hi hL (by decide) (by decide) (lv_at hl 0 rfl) (lv_at hl 4 rfl) dL_law_273 dL_law_274 dL_law_276 dL_law_277 dL_law_278 ?_
  refine law_rd (k := 2) hx hb hX hbl hS hi hL (by decide) (by decide) (lv_at hl 0 rfl) (lv_at hl 4 rfl) dL_law_279 dL_law_280 dL_law_282 dL_law_283 dL_law_284 ?_
  refine law_rd (k := 3) hx hb hX hbl hS hi hL (by decide) (by decide) (lv_at hl 0 rfl) (lv_at hl 4 rfl) dL_law_285 dL_law_286 dL_law_288 dL_law_289 dL_law_290 ?_
  refine lv_aload_n hx hb dL_law_291 rfl (lv_at hl 3 rfl) ?_
  have hF := va_free (wc := (wFm aF aN aT aL aO aH aP aX ++ (wSt cI aN S ++ (wSt cI aT R ++ (wLo cI aL Y ++ (wHi cS aH ah G ++ (wZs cI ah Z)))))) ++ wOt cJ ao f) hD hS hA [0, 1, 2, 3, 4, 5, 6, 7, 8, 9, 10, 11, 12, 13, 14, 15, 16, 17, 18, 19, 20, 21, 22, 23, 24, 25, 27, 28, 29, 30, 31, 32, 33, 34, 35, 36, 37, 38, 39, 40, 41, 42, 43, 44, 45, 46, 47, 48, 49, 50, 51, 52, 53, 54, 55, 56, 57, 58, 59, 60, 61, 62, 63, 64, 65, 66, 67, 68, 69, 70, 71, 72, 73, 74, 75, 76, 77, 78, 79, 80, 81, 82, 83, 84, 85, 86, 87, 88, 89, 90, 91, 92, 93, 94, 109] rfl
  refine va_calli (vx_runSW (As := [.ref (aF 0), .int (xs (i + 1)), .int (xs (i + 2)), .int (xs (i + 3)), .ref ao]) (rest := []) ⟨hx, hb, hml, hown, hts⟩ (met_L_leave l hfl dC dI cI cZ cS cJ aF aN aT aL aO aH ah aP aX ao f S R Y G Z s.heap.size H.size (xs (i + 1)) (xs (i + 2)) (xs (i + 3)) (c0, r0, S9, R9, Y9, G9, Z9) e6 (fun c r q => by obtain ⟨u, hu⟩ := q; cases hu; exact an_ks hAn)) (vx_cwSW 5 hts gL_law_L_leave rfl rfl rfl (by decide +kernel) ⟨(Nat.le_of_ble_eq_true rfl), (Nat.le_of_ble_eq_true rfl)⟩) (pLS (wc := (wFm aF aN aT aL aO aH aP aX ++ (wSt cI aN S ++ (wSt cI aT R ++ (wLo cI aL Y ++ (wHi cS aH ah G ++ (wZs cI ah Z)))))) ++ wOt cJ ao f) hK hP hD hN hXW hNC hS [0, 1, 2, 3, 4, 5, 6, 7, 8, 9, 10, 11, 12, 13, 14, 15, 16, 17, 18, 19, 20, 21, 22, 23, 24, 25, 27, 28, 29, 30, 31, 32, 33, 34, 35, 36, 37, 38, 39, 40, 41, 42, 43, 44, 45, 46, 47, 48, 49, 50, 51, 52, 53, 54, 55, 56, 57, 58, 59, 60, 61, 62, 63, 64, 65, 66, 67, 68, 69, 70, 71, 72, 73, 74, 75, 76, 77, 78, 79, 80, 81, 82, 83, 84, 85, 86, 87, 88, 89, 90, 91, 92, 93, 94, 109] rfl (by decide)) rfl rfl hl.1 rfl (lv_room (Nat.le_of_ble_eq_true rfl)) dL_law_292 ⟨hc, hsl⟩) hS (fun q _ h => hF q h) hF (fun k9 u t H1 locs ht hvm hw hB hz1 hk1 hS => ?_)
  obtain ⟨u1, f9⟩ := u
  obtain ⟨c1, r1, hcr, hwr⟩ := hw
  try dsimp only at hcr hwr
  cases hcr
  have hcm := an_wrp (by decide) (by decide) (by decide) hwr hAn
  rw [ht] at hB
  have hB : va_P (dC, dI) vwCl ((wFm aF aN aT aL aO aH aP aX ++ (wSt cI aN S9 ++ (wSt cI aT R9 ++ (wLo cI aL Y9 ++ (wHi cS aH ah G9 ++ (wZs cI ah Z9)))))) ++ wOt cJ ao f9) H1 := hB
  have hP := wrk2 (w2 := wFm aF aN aT aL aO aH aP aX ++ (wSt cI aN S9 ++ (wSt cI aT R9 ++ (wLo cI aL Y9 ++ (wOu aO aN aL ++ (wHi cS aH ah G9 ++ (wZs cI ah Z9 ++ (wSn cI cZ aP N ++ (wTx cI aX T ++ (wMo cI aM M hs ++ (wOt cJ ao f9))))))))))) (wr := wOu aO aN aL ++ (wSn cI cZ aP N ++ (wTx cI aX T ++ (wMo cI aM M hs)))) hP hD [0, 1, 2, 3, 4, 5, 6, 7, 8, 9, 10, 11, 12, 13, 14, 15, 16, 17, 18, 19, 20, 21, 22, 23, 24, 25, 27, 28, 29, 30, 31, 32, 33, 34, 35, 36, 37, 38, 39, 40, 41, 42, 43, 44, 45, 46, 47, 48, 49, 50, 51, 52, 53, 54, 55, 56, 57, 58, 59, 60, 61, 62, 63, 64, 65, 66, 67, 68, 69, 70, 71, 72, 73, 74, 75, 76, 77, 78, 79, 80, 81, 82, 83, 84, 85, 86, 87, 88, 89, 90, 91, 92, 93, 94, 109] [26, 95, 96, 97, 98, 99, 100, 101, 102, 103, 104, 105, 106, 107, 108] rfl rfl (by decide) hk1 hB [15, 16, 17, 18, 19, 20, 21, 22, 23, 24, 25, 26, 27, 28, 29, 30, 31, 32, 33, 34, 35, 36, 37, 38, 39, 40, 0, 41, 42, 43, 44, 45, 46, 47, 48, 49, 50, 51, 52, 53, 54, 55, 56, 57, 58, 59, 60, 61, 62, 63, 64, 65, 66, 67, 68, 69, 70, 71, 72, 73, 74, 75, 76, 77, 78, 79, 80, 81, 82, 83, 84, 85, 86, 87, 88, 89, 90, 91, 92, 93, 94, 95, 96, 97, 98, 99, 100, 101, 102, 103, 104, 105, 106, 107, 108, 1, 2, 3, 4, 5, 6, 7, 8, 9, 10, 11, 12, 13, 14, 109] rfl
  have hD := D_addr (w1 := wFm aF aN aT aL aO aH aP aX ++ (wSt cI aN S9 ++ (wSt cI aT R9 ++ (wLo cI aL Y9 ++ (wOu aO aN aL ++ (wHi cS aH ah G9 ++ (wZs cI ah Z9 ++ (wSn cI cZ aP N ++ (wTx cI aX T ++ (wMo cI aM M hs ++ (wOt cJ ao f9))))))))))) hD rfl
  refine lv_istore (lv' := [(5, .int k9), (0, .ref b), (1, .ref (aF 0)), (2, .ref (aM 0)), (3, .ref ao), (4, .int (nI i))]) hx hb dL_law_295 hl (by decide) rfl (fun ls hl => ?_)
  refine lv_aload_n hx hb dL_law_297 rfl (lv_at hl 3 rfl) ?_
  refine law_rd (k := 1) hx hb hX hbl hS hi hL (by decide) (by decide) (lv_at hl 1 rfl) (lv_at hl 5 rfl) dL_law_298 dL_law_299 dL_law_301 dL_law_302 dL_law_303 ?_
  refine law_rd (k := 2) hx hb hX hbl hS hi hL (by decide) (by decide) (lv_at hl 1 rfl) (lv_at hl 5 rfl) dL_law_304 dL_law_305 dL_law_307 dL_law_308 dL_law_309 ?_
  refine law_rd (k := 3) hx hb hX hbl hS hi hL (by decide) (by decide) (lv_at hl 1 rfl) (lv_at hl 5 rfl) dL_law_310 dL_law_311 dL_law_313 dL_law_314 dL_law_315 ?_
  have hF := va_free (wc := wMo cI aM M hs) hD hS hA [100, 101, 102, 103, 104, 105, 106, 107, 108] rfl
  refine va_calli (va_runV (As := [.int (xs (i + 1)), .int (xs (i + 2)), .int (xs (i + 3))]) (rest := []) ⟨hx, hb, hml, hown, hts⟩ (met_X7_leave l dC dI cI cZ cS aM M hs H1.size (xs (i + 1)) (xs (i + 2)) (xs (i + 3)) _ e7) (cwV 3 hts gL_law_X7_leave rfl rfl rfl (by decide +kernel) ⟨(Nat.le_of_ble_eq_true rfl), (Nat.le_of_ble_eq_true rfl)⟩) (pV (wc := wMo cI aM M hs) (ci := 7) (q0 := 100) hK3 hP hD hN [100, 101, 102, 103, 104, 105, 106, 107, 108] rfl (by decide) rfl rfl) rfl rfl hl.1 rfl (lv_room (Nat.le_of_ble_eq_true rfl)) dL_law_316 ⟨hc, hsl⟩) hS (fun q _ h => hF q h) hF (fun b9 u t H2 locs ht hvm hw hB hz1 hk1 hS => ?_)
  try dsimp only at hw hB
  cases hw
  rw [ht] at hB
  have hP := wrk2 (w2 := wFm aF aN aT aL aO aH aP aX ++ (wSt cI aN S9 ++ (wSt cI aT R9 ++ (wLo cI aL Y9 ++ (wOu aO aN aL ++ (wHi cS aH ah G9 ++ (wZs cI ah Z9 ++ (wSn cI cZ aP N ++ (wTx cI aX T ++ (wMo cI aM M9 hs ++ (wOt cJ ao f9))))))))))) (wr := wFm aF aN aT aL aO aH aP aX ++ (wSt cI aN S9 ++ (wSt cI aT R9 ++ (wLo cI aL Y9 ++ (wOu aO aN aL ++ (wHi cS aH ah G9 ++ (wZs cI ah Z9 ++ (wSn cI cZ aP N ++ (wTx cI aX T ++ (wOt cJ ao f9)))))))))) hP hD [100, 101, 102, 103, 104, 105, 106, 107, 108] [0, 1, 2, 3, 4, 5, 6, 7, 8, 9, 10, 11, 12, 13, 14, 15, 16, 17, 18, 19, 20, 21, 22, 23, 24, 25, 26, 27, 28, 29, 30, 31, 32, 33, 34, 35, 36, 37, 38, 39, 40, 41, 42, 43, 44, 45, 46, 47, 48, 49, 50, 51, 52, 53, 54, 55, 56, 57, 58, 59, 60, 61, 62, 63, 64, 65, 66, 67, 68, 69, 70, 71, 72, 73, 74, 75, 76, 77, 78, 79, 80, 81, 82, 83, 84, 85, 86, 87, 88, 89, 90, 91, 92, 93, 94, 95, 96, 97, 98, 99, 109] rfl rfl (by decide) hk1 hB [0, 1, 2, 3, 4, 5, 6, 7, 8, 9, 10, 11, 12, 13, 14, 15, 16, 17, 18, 19, 20, 21, 22, 23, 24, 25, 26, 27, 28, 29, 30, 31, 32, 33, 34, 35, 36, 37, 38, 39, 40, 41, 42, 43, 44, 45, 46, 47, 48, 49, 50, 51, 52, 53, 54, 55, 56, 57, 58, 59, 60, 61, 62, 63, 64, 65, 66, 67, 68, 69, 70, 71, 72, 73, 74, 75, 76, 77, 78, 79, 80, 81, 82, 83, 84, 85, 86, 87, 88, 89, 90, 91, 92, 93, 94, 95, 96, 97, 98, 99, 101, 102, 103, 104, 105, 106, 107, 108, 109, 100] rfl
  have hD := D_addr (w1 := wFm aF aN aT aL aO aH aP aX ++ (wSt cI aN S9 ++ (wSt cI aT R9 ++ (wLo cI aL Y9 ++ (wOu aO aN aL ++ (wHi cS aH ah G9 ++ (wZs cI ah Z9 ++ (wSn cI cZ aP N ++ (wTx cI aX T ++ (wMo cI aM M9 hs ++ (wOt cJ ao f9))))))))))) hD rfl
  refine lv_istore (lv' := [(6, .int b0), (5, .int k9), (0, .ref b), (1, .ref (aF 0)), (2, .ref (aM 0)), (3, .ref ao), (4, .int (nI i))]) hx hb dL_law_319 hl (by decide) rfl (fun ls hl => ?_)
  refine lv_aload_n hx hb dL_law_321 rfl (lv_at hl 4 rfl) ?_
  refine va_calli (va_runV (As := []) (rest := []) ⟨hx, hb, hml, hown, hts⟩ (met_X7_thrown l dC dI cI cZ cS aM M9 hs H2.size) (cwV 0 hts gL_law_X7_thrown rfl rfl rfl (by decide +kernel) ⟨(Nat.le_of_ble_eq_true rfl), (Nat.le_of_ble_eq_true rfl)⟩) (pV (wc := wMo cI aM M9 hs) (ci := 7) (q0 := 100) hK3 hP hD hN [100, 101, 102, 103, 104, 105, 106, 107, 108] rfl (by decide) rfl rfl) rfl rfl hl.1 rfl (lv_room (Nat.le_of_ble_eq_true rfl)) dL_law_322 ⟨hc, hsl⟩) hS (fun q _ h => a0_in hS hA q h) (a0_in hS hA) (fun r9 u t H3 locs ht hvm hw hB hz1 hk1 hS => ?_)
  clear hB
  have hP := rdk hP hk1
  have hw : r9 = M9 7 0 := hw
  subst hw
  refine lv_iload hx hb dL_law_325 (lv_at hl 1 rfl) ?_
  refine lv_icmp_eq (tgt := 332) hx hb dL_law_327 (by decide) (fun _ => ?_) (fun q => absurd hcm.1.symm q)
  refine lv_iload hx hb dL_law_332 (lv_at hl 1 rfl) ?_
  refine lv_if_ne (tgt := 349) hx hb dL_law_334 (by decide) (fun q9 => ?_) (fun q9 => ?_)
  · refine lv_goto (tgt := 2002) hx hb dL_law_349 (by decide) ?_
    exact k _ _ ⟨S9, R9, Y9, G9, Z9, N, T, M9, hs, f9, hI, hP, hD⟩ hS ls (lv_sub hl [2, 3, 4, 5, 6] rfl)
  · refine lv_aload_n hx hb dL_law_337 rfl (lv_at hl 5 rfl) ?_
    refine lv_iconst (v := (0 : Int32)) hx hb dL_law_338 (by decide) ?_
    refine va_lald hx hb hK hP 109 3 rfl rfl (by unfold vp_in; decide) dL_law_339 ?_
    refine lv_iload hx hb dL_law_340 (lv_at hl 0 rfl) ?_
    refine lv_i2l (v := b0.toInt64) hx hb dL_law_342 rfl ?_
    rw [show f9 (0 : Int32).toNatClampNeg = b0.toInt64 from hcm.2 q9]
    refine W.lcmp hx hb dL_law_343 ?_
    rw [lg_cmp_self]
    refine lv_if_eq (tgt := 349) hx hb dL_law_344 (by decide) (fun _ => ?_) (fun q => absurd rfl q)
    refine lv_goto (tgt := 2002) hx hb dL_law_349 (by decide) ?_
    exact k _ _ ⟨S9, R9, Y9, G9, Z9, N, T, M9, hs, f9, hI, hP, hD⟩ hS ls (lv_sub hl [2, 3, 4, 5, 6] rfl)
set_option maxHeartbeats 4000000 in
set_option maxRecDepth 100000 in
theorem law_c_addGuest {p : Program} {e : Env} {s : State} {m : MethodId} {below : List Frame} {meth : Method} {c : Code} {Q : State → Prop} (l : Launch) (hfl : l.stackTraces = false) {dC : Nat → ClassId} {dI : Nat → Nat → Nat} {cI cZ cS cJ : ClassId} {b L : Nat} {xs : Nat → Int32} {aF aN aT aL aO aH : Nat → Nat} {ah : Nat → Nat → Nat} {aP aX aM : Nat → Nat} {ao : Nat} (C : LC dC dI cI cZ cS cJ p s m c b L xs) {i : Nat} (hi : i + 5 ≤ L) {cells slots : Nat} (hc : cells + 1 ≤ 601024) (hsl : slots + 6 ≤ 7293034) {H : Heap} {locs : List Loc} (I : LI dC dI cI cZ cS cJ aF aN aT aL aO aH ah aP aX aM ao s H) (hS : va_S (fun q : Nat => s.heap.size ≤ q) s.heap H locs) {ls : Array Slot} (hl : lv_has ls 9 [(0, .ref b), (1, .ref (aF 0)), (2, .ref (aM 0)), (3, .ref ao), (4, .int (nI i))])
    (k : ∀ (H : Heap) (locs : List Loc), LI dC dI cI cZ cS cJ aF aN aT aL aO aH ah aP aX aM ao s H → va_S (fun q : Nat => s.heap.size ≤ q) s.heap H locs → ∀ ls : Array Slot, lv_has ls 9 [(0, .ref b), (1, .ref (aF 0)), (2, .ref (aM 0)), (3, .ref ao), (4, .int (nI i))] → W p l e room_1 s m #[Value.ref b] below meth c H locs (cells + 1) (slots + 6) Q (F0 m 2002 ls [])) : W p l e room_1 s m #[Value.ref b] below meth c H locs cells slots Q (F0 m 352 ls []) := by
  obtain ⟨hx, hb, hml, hown, hts, hK, hN, hXW, hNC, hX, hbl, hL⟩ := C
  obtain ⟨S, R, Y, G, Z, N, T, M, hs, f, hI, hP, hD⟩ := I
  have hA : ∀ q : Nat, s.heap.size ≤ q → (fun q : Nat => s.heap.size ≤ q) q := fun _ h => h
  have hK3 := hK.sub (tys' := tyS cI cZ cS) [0, 1, 2] rfl
  obtain ⟨c0, r0, S9, G9, Z9, b0, M9, e6, e7, hI, hAn⟩ := st_addGuest hI 
  refine lv_aload_n hx hb dL_law_352 rfl (lv_at hl 1 rfl) ?_
  refine lv_aload_n hx hb dL_law_353 rfl (lv_at hl 3 rfl) ?_
  have hF := va_free (wc := (wFm aF aN aT aL aO aH aP aX ++ (wSt cI aN S ++ (wHi cS aH ah G ++ (wZs cI ah Z)))) ++ wOt cJ ao f) hD hS hA [0, 1, 2, 3, 4, 5, 6, 7, 8, 9, 10, 11, 27, 28, 29, 30, 31, 32, 33, 34, 35, 36, 37, 38, 39, 40, 41, 42, 43, 44, 45, 46, 47, 48, 49, 50, 51, 52, 53, 54, 55, 56, 57, 58, 59, 60, 61, 62, 63, 64, 65, 66, 67, 68, 69, 70, 71, 72, 73, 74, 75, 76, 77, 78, 79, 80, 81, 82, 83, 84, 85, 86, 87, 88, 89, 90, 91, 92, 93, 94, 109] rfl
  refine va_calli (vx_runSW (As := [.ref (aF 0), .ref ao]) (rest := []) ⟨hx, hb, hml, hown, hts⟩ (met_L_addGuest l hfl dC dI cI cZ cS cJ aF aN aT aL aO aH ah aP aX ao f S G Z s.heap.size H.size  (c0, r0, S9, G9, Z9) e6 (fun c r q => by obtain ⟨u, hu⟩ := q; cases hu; exact an_ks hAn)) (vx_cwSW 2 hts gL_law_L_addGuest rfl rfl rfl (by decide +kernel) ⟨(Nat.le_of_ble_eq_true rfl), (Nat.le_of_ble_eq_true rfl)⟩) (pLS (wc := (wFm aF aN aT aL aO aH aP aX ++ (wSt cI aN S ++ (wHi cS aH ah G ++ (wZs cI ah Z)))) ++ wOt cJ ao f) hK hP hD hN hXW hNC hS [0, 1, 2, 3, 4, 5, 6, 7, 8, 9, 10, 11, 27, 28, 29, 30, 31, 32, 33, 34, 35, 36, 37, 38, 39, 40, 41, 42, 43, 44, 45, 46, 47, 48, 49, 50, 51, 52, 53, 54, 55, 56, 57, 58, 59, 60, 61, 62, 63, 64, 65, 66, 67, 68, 69, 70, 71, 72, 73, 74, 75, 76, 77, 78, 79, 80, 81, 82, 83, 84, 85, 86, 87, 88, 89, 90, 91, 92, 93, 94, 109] rfl (by decide)) rfl rfl hl.1 rfl (lv_room (Nat.le_of_ble_eq_true rfl)) dL_law_354 ⟨hc, hsl⟩) hS (fun q _ h => hF q h) hF (fun k9 u t H1 locs ht hvm hw hB hz1 hk1 hS => ?_)
  obtain ⟨u1, f9⟩ := u
  obtain ⟨c1, r1, hcr, hwr⟩ := hw
  try dsimp only at hcr hwr
  cases hcr
  have hcm := an_wrp (by decide) (by decide) (by decide) hwr hAn
  rw [ht] at hB
  have hB : va_P (dC, dI) vwCl ((wFm aF aN aT aL aO aH aP aX ++ (wSt cI aN S9 ++ (wHi cS aH ah G9 ++ (wZs cI ah Z9)))) ++ wOt cJ ao f9) H1 := hB
  have hP := wrk2 (w2 := wFm aF aN aT aL aO aH aP aX ++ (wSt cI aN S9 ++ (wSt cI aT R ++ (wLo cI aL Y ++ (wOu aO aN aL ++ (wHi cS aH ah G9 ++ (wZs cI ah Z9 ++ (wSn cI cZ aP N ++ (wTx cI aX T ++ (wMo cI aM M hs ++ (wOt cJ ao f9))))))))))) (wr := wSt cI aT R ++ (wLo cI aL Y ++ (wOu aO aN aL ++ (wSn cI cZ aP N ++ (wTx cI aX T ++ (wMo cI aM M hs)))))) hP hD [0, 1, 2, 3, 4, 5, 6, 7, 8, 9, 10, 11, 27, 28, 29, 30, 31, 32, 33, 34, 35, 36, 37, 38, 39, 40, 41, 42, 43, 44, 45, 46, 47, 48, 49, 50, 51, 52, 53, 54, 55, 56, 57, 58, 59, 60, 61, 62, 63, 64, 65, 66, 67, 68, 69, 70, 71, 72, 73, 74, 75, 76, 77, 78, 79, 80, 81, 82, 83, 84, 85, 86, 87, 88, 89, 90, 91, 92, 93, 94, 109] [12, 13, 14, 15, 16, 17, 18, 19, 20, 21, 22, 23, 24, 25, 26, 95, 96, 97, 98, 99, 100, 101, 102, 103, 104, 105, 106, 107, 108] rfl rfl (by decide) hk1 hB [29, 30, 31, 32, 33, 34, 35, 36, 37, 38, 39, 40, 0, 1, 2, 3, 4, 5, 6, 7, 8, 9, 10, 11, 12, 13, 14, 41, 42, 43, 44, 45, 46, 47, 48, 49, 50, 51, 52, 53, 54, 55, 56, 57, 58, 59, 60, 61, 62, 63, 64, 65, 66, 67, 68, 69, 70, 71, 72, 73, 74, 75, 76, 77, 78, 79, 80, 81, 82, 83, 84, 85, 86, 87, 88, 89, 90, 91, 92, 93, 94, 95, 96, 97, 98, 99, 100, 101, 102, 103, 104, 105, 106, 107, 108, 15, 16, 17, 18, 19, 20, 21, 22, 23, 24, 25, 26, 27, 28, 109] rfl
  have hD := D_addr (w1 := wFm aF aN aT aL aO aH aP aX ++ (wSt cI aN S9 ++ (wSt cI aT R ++ (wLo cI aL Y ++ (wOu aO aN aL ++ (wHi cS aH ah G9 ++ (wZs cI ah Z9 ++ (wSn cI cZ aP N ++ (wTx cI aX T ++ (wMo cI aM M hs ++ (wOt cJ ao f9))))))))))) hD rfl
  refine lv_istore (lv' := [(5, .int k9), (0, .ref b), (1, .ref (aF 0)), (2, .ref (aM 0)), (3, .ref ao), (4, .int (nI i))]) hx hb dL_law_357 hl (by decide) rfl (fun ls hl => ?_)
  refine lv_aload_n hx hb dL_law_359 rfl (lv_at hl 3 rfl) ?_
  have hF := va_free (wc := wMo cI aM M hs) hD hS hA [100, 101, 102, 103, 104, 105, 106, 107, 108] rfl
  refine va_calli (va_runV (As := []) (rest := []) ⟨hx, hb, hml, hown, hts⟩ (met_X7_addGuest l dC dI cI cZ cS aM M hs H1.size  _ e7) (cwV 0 hts gL_law_X7_addGuest rfl rfl rfl (by decide +kernel) ⟨(Nat.le_of_ble_eq_true rfl), (Nat.le_of_ble_eq_true rfl)⟩) (pV (wc := wMo cI aM M hs) (ci := 7) (q0 := 100) hK3 hP hD hN [100, 101, 102, 103, 104, 105, 106, 107, 108] rfl (by decide) rfl rfl) rfl rfl hl.1 rfl (lv_room (Nat.le_of_ble_eq_true rfl)) dL_law_360 ⟨hc, hsl⟩) hS (fun q _ h => hF q h) hF (fun b9 u t H2 locs ht hvm hw hB hz1 hk1 hS => ?_)
  try dsimp only at hw hB
  cases hw
  rw [ht] at hB
  have hP := wrk2 (w2 := wFm aF aN aT aL aO aH aP aX ++ (wSt cI aN S9 ++ (wSt cI aT R ++ (wLo cI aL Y ++ (wOu aO aN aL ++ (wHi cS aH ah G9 ++ (wZs cI ah Z9 ++ (wSn cI cZ aP N ++ (wTx cI aX T ++ (wMo cI aM M9 hs ++ (wOt cJ ao f9))))))))))) (wr := wFm aF aN aT aL aO aH aP aX ++ (wSt cI aN S9 ++ (wSt cI aT R ++ (wLo cI aL Y ++ (wOu aO aN aL ++ (wHi cS aH ah G9 ++ (wZs cI ah Z9 ++ (wSn cI cZ aP N ++ (wTx cI aX T ++ (wOt cJ ao f9)))))))))) hP hD [100, 101, 102, 103, 104, 105, 106, 107, 108] [0, 1, 2, 3, 4, 5, 6, 7, 8, 9, 10, 11, 12, 13, 14, 15, 16, 17, 18, 19, 20, 21, 22, 23, 24, 25, 26, 27, 28, 29, 30, 31, 32, 33, 34, 35, 36, 37, 38, 39, 40, 41, 42, 43, 44, 45, 46, 47, 48, 49, 50, 51, 52, 53, 54, 55, 56, 57, 58, 59, 60, 61, 62, 63, 64, 65, 66, 67, 68, 69, 70, 71, 72, 73, 74, 75, 76, 77, 78, 79, 80, 81, 82, 83, 84, 85, 86, 87, 88, 89, 90, 91, 92, 93, 94, 95, 96, 97, 98, 99, 109] rfl rfl (by decide) hk1 hB [0, 1, 2, 3, 4, 5, 6, 7, 8, 9, 10, 11, 12, 13, 14, 15, 16, 17, 18, 19, 20, 21, 22, 23, 24, 25, 26, 27, 28, 29, 30, 31, 32, 33, 34, 35, 36, 37, 38, 39, 40, 41, 42, 43, 44, 45, 46, 47, 48, 49, 50, 51, 52, 53, 54, 55, 56, 57, 58, 59, 60, 61, 62, 63, 64, 65, 66, 67, 68, 69, 70, 71, 72, 73, 74, 75, 76, 77, 78, 79, 80, 81, 82, 83, 84, 85, 86, 87, 88, 89, 90, 91, 92, 93, 94, 95, 96, 97, 98, 99, 101, 102, 103, 104, 105, 106, 107, 108, 109, 100] rfl
  have hD := D_addr (w1 := wFm aF aN aT aL aO aH aP aX ++ (wSt cI aN S9 ++ (wSt cI aT R ++ (wLo cI aL Y ++ (wOu aO aN aL ++ (wHi cS aH ah G9 ++ (wZs cI ah Z9 ++ (wSn cI cZ aP N ++ (wTx cI aX T ++ (wMo cI aM M9 hs ++ (wOt cJ ao f9))))))))))) hD rfl
  refine lv_istore (lv' := [(6, .int b0), (5, .int k9), (0, .ref b), (1, .ref (aF 0)), (2, .ref (aM 0)), (3, .ref ao), (4, .int (nI i))]) hx hb dL_law_363 hl (by decide) rfl (fun ls hl => ?_)
  refine lv_aload_n hx hb dL_law_365 rfl (lv_at hl 4 rfl) ?_
  refine va_calli (va_runV (As := []) (rest := []) ⟨hx, hb, hml, hown, hts⟩ (met_X7_thrown l dC dI cI cZ cS aM M9 hs H2.size) (cwV 0 hts gL_law_X7_thrown rfl rfl rfl (by decide +kernel) ⟨(Nat.le_of_ble_eq_true rfl), (Nat.le_of_ble_eq_true rfl)⟩) (pV (wc := wMo cI aM M9 hs) (ci := 7) (q0 := 100) hK3 hP hD hN [100, 101, 102, 103, 104, 105, 106, 107, 108] rfl (by decide) rfl rfl) rfl rfl hl.1 rfl (lv_room (Nat.le_of_ble_eq_true rfl)) dL_law_366 ⟨hc, hsl⟩) hS (fun q _ h => a0_in hS hA q h) (a0_in hS hA) (fun r9 u t H3 locs ht hvm hw hB hz1 hk1 hS => ?_)
  clear hB
  have hP := rdk hP hk1
  have hw : r9 = M9 7 0 := hw
  subst hw
  refine lv_iload hx hb dL_law_369 (lv_at hl 1 rfl) ?_
  refine lv_icmp_eq (tgt := 376) hx hb dL_law_371 (by decide) (fun _ => ?_) (fun q => absurd hcm.1.symm q)
  refine lv_iload hx hb dL_law_376 (lv_at hl 1 rfl) ?_
  refine lv_if_ne (tgt := 393) hx hb dL_law_378 (by decide) (fun q9 => ?_) (fun q9 => ?_)
  · refine lv_goto (tgt := 2002) hx hb dL_law_393 (by decide) ?_
    exact k _ _ ⟨S9, R, Y, G9, Z9, N, T, M9, hs, f9, hI, hP, hD⟩ hS ls (lv_sub hl [2, 3, 4, 5, 6] rfl)
  · refine lv_aload_n hx hb dL_law_381 rfl (lv_at hl 5 rfl) ?_
    refine lv_iconst (v := (0 : Int32)) hx hb dL_law_382 (by decide) ?_
    refine va_lald hx hb hK hP 109 3 rfl rfl (by unfold vp_in; decide) dL_law_383 ?_
    refine lv_iload hx hb dL_law_384 (lv_at hl 0 rfl) ?_
    refine lv_i2l (v := b0.toInt64) hx hb dL_law_386 rfl ?_
    rw [show f9 (0 : Int32).toNatClampNeg = b0.toInt64 from hcm.2 q9]
    refine W.lcmp hx hb dL_law_387 ?_
    rw [lg_cmp_self]
    refine lv_if_eq (tgt := 393) hx hb dL_law_388 (by decide) (fun _ => ?_) (fun q => absurd rfl q)
    refine lv_goto (tgt := 2002) hx hb dL_law_393 (by decide) ?_
    exact k _ _ ⟨S9, R, Y, G9, Z9, N, T, M9, hs, f9, hI, hP, hD⟩ hS ls (lv_sub hl [2, 3, 4, 5, 6] rfl)
set_option maxHeartbeats 4000000 in
set_option maxRecDepth 100000 in
theorem law_c_come {p : Program} {e : Env} {s : State} {m : MethodId} {below : List Frame} {meth : Method} {c : Code} {Q : State → Prop} (l : Launch) (hfl : l.stackTraces = false) {dC : Nat → ClassId} {dI : Nat → Nat → Nat} {cI cZ cS cJ : ClassId} {b L : Nat} {xs : Nat → Int32} {aF aN aT aL aO aH : Nat → Nat} {ah : Nat → Nat → Nat} {aP aX aM : Nat → Nat} {ao : Nat} (C : LC dC dI cI cZ cS cJ p s m c b L xs) {i : Nat} (hi : i + 5 ≤ L) {cells slots : Nat} (hc : cells + 1 ≤ 601024) (hsl : slots + 6 ≤ 7293034) {H : Heap} {locs : List Loc} (I : LI dC dI cI cZ cS cJ aF aN aT aL aO aH ah aP aX aM ao s H) (hS : va_S (fun q : Nat => s.heap.size ≤ q) s.heap H locs) {ls : Array Slot} (hl : lv_has ls 9 [(0, .ref b), (1, .ref (aF 0)), (2, .ref (aM 0)), (3, .ref ao), (4, .int (nI i))])
    (k : ∀ (H : Heap) (locs : List Loc), LI dC dI cI cZ cS cJ aF aN aT aL aO aH ah aP aX aM ao s H → va_S (fun q : Nat => s.heap.size ≤ q) s.heap H locs → ∀ ls : Array Slot, lv_has ls 9 [(0, .ref b), (1, .ref (aF 0)), (2, .ref (aM 0)), (3, .ref ao), (4, .int (nI i))] → W p l e room_1 s m #[Value.ref b] below meth c H locs (cells + 1) (slots + 6) Q (F0 m 2002 ls [])) : W p l e room_1 s m #[Value.ref b] below meth c H locs cells slots Q (F0 m 396 ls []) := by
  obtain ⟨hx, hb, hml, hown, hts, hK, hN, hXW, hNC, hX, hbl, hL⟩ := C
  obtain ⟨S, R, Y, G, Z, N, T, M, hs, f, hI, hP, hD⟩ := I
  have hA : ∀ q : Nat, s.heap.size ≤ q → (fun q : Nat => s.heap.size ≤ q) q := fun _ h => h
  have hK3 := hK.sub (tys' := tyS cI cZ cS) [0, 1, 2] rfl
  obtain ⟨c0, r0, S9, R9, G9, Z9, b0, M9, e6, e7, hI, hAn⟩ := st_come hI R (xs (i + 1)) (xs (i + 2))
  refine lv_aload_n hx hb dL_law_396 rfl (lv_at hl 1 rfl) ?_
  refine law_rd (k := 1) hx hb hX hbl hS hi hL (by decide) (by decide) (lv_at hl 0 rfl) (lv_at hl 4 rfl) dL_law_397 dL_law_398 dL_law_400 dL_law_401 dL_law_402 ?_
  refine law_rd (k := 2) hx hb hX hbl hS hi hL (by decide) (by decide) (lv_at hl 0 rfl) (lv_at hl 4 rfl) dL_law_403 dL_law_404 dL_law_406 dL_law_407 dL_law_408 ?_
  refine lv_aload_n hx hb dL_law_409 rfl (lv_at hl 3 rfl) ?_
  have hF := va_free (wc := (wFm aF aN aT aL aO aH aP aX ++ (wSt cI aN S ++ (wSt cI aT R ++ (wHi cS aH ah G ++ (wZs cI ah Z))))) ++ wOt cJ ao f) hD hS hA [0, 1, 2, 3, 4, 5, 6, 7, 8, 9, 10, 11, 12, 13, 14, 15, 16, 17, 18, 19, 20, 21, 22, 27, 28, 29, 30, 31, 32, 33, 34, 35, 36, 37, 38, 39, 40, 41, 42, 43, 44, 45, 46, 47, 48, 49, 50, 51, 52, 53, 54, 55, 56, 57, 58, 59, 60, 61, 62, 63, 64, 65, 66, 67, 68, 69, 70, 71, 72, 73, 74, 75, 76, 77, 78, 79, 80, 81, 82, 83, 84, 85, 86, 87, 88, 89, 90, 91, 92, 93, 94, 109] rfl
  refine va_calli (vx_runSW (As := [.ref (aF 0), .int (xs (i + 1)), .int (xs (i + 2)), .ref ao]) (rest := []) ⟨hx, hb, hml, hown, hts⟩ (met_L_come l hfl dC dI cI cZ cS cJ aF aN aT aL aO aH ah aP aX ao f S R G Z s.heap.size H.size (xs (i + 1)) (xs (i + 2)) (c0, r0, S9, R9, G9, Z9) e6 (fun c r q => by obtain ⟨u, hu⟩ := q; cases hu; exact an_ks hAn)) (vx_cwSW 4 hts gL_law_L_come rfl rfl rfl (by decide +kernel) ⟨(Nat.le_of_ble_eq_true rfl), (Nat.le_of_ble_eq_true rfl)⟩) (pLS (wc := (wFm aF aN aT aL aO aH aP aX ++ (wSt cI aN S ++ (wSt cI aT R ++ (wHi cS aH ah G ++ (wZs cI ah Z))))) ++ wOt cJ ao f) hK hP hD hN hXW hNC hS [0, 1, 2, 3, 4, 5, 6, 7, 8, 9, 10, 11, 12, 13, 14, 15, 16, 17, 18, 19, 20, 21, 22, 27, 28, 29, 30, 31, 32, 33, 34, 35, 36, 37, 38, 39, 40, 41, 42, 43, 44, 45, 46, 47, 48, 49, 50, 51, 52, 53, 54, 55, 56, 57, 58, 59, 60, 61, 62, 63, 64, 65, 66, 67, 68, 69, 70, 71, 72, 73, 74, 75, 76, 77, 78, 79, 80, 81, 82, 83, 84, 85, 86, 87, 88, 89, 90, 91, 92, 93, 94, 109] rfl (by decide)) rfl rfl hl.1 rfl (lv_room (Nat.le_of_ble_eq_true rfl)) dL_law_410 ⟨hc, hsl⟩) hS (fun q _ h => hF q h) hF (fun k9 u t H1 locs ht hvm hw hB hz1 hk1 hS => ?_)
  obtain ⟨u1, f9⟩ := u
  obtain ⟨c1, r1, hcr, hwr⟩ := hw
  try dsimp only at hcr hwr
  cases hcr
  have hcm := an_wrp (by decide) (by decide) (by decide) hwr hAn
  rw [ht] at hB
  have hB : va_P (dC, dI) vwCl ((wFm aF aN aT aL aO aH aP aX ++ (wSt cI aN S9 ++ (wSt cI aT R9 ++ (wHi cS aH ah G9 ++ (wZs cI ah Z9))))) ++ wOt cJ ao f9) H1 := hB
  have hP := wrk2 (w2 := wFm aF aN aT aL aO aH aP aX ++ (wSt cI aN S9 ++ (wSt cI aT R9 ++ (wLo cI aL Y ++ (wOu aO aN aL ++ (wHi cS aH ah G9 ++ (wZs cI ah Z9 ++ (wSn cI cZ aP N ++ (wTx cI aX T ++ (wMo cI aM M hs ++ (wOt cJ ao f9))))))))))) (wr := wLo cI aL Y ++ (wOu aO aN aL ++ (wSn cI cZ aP N ++ (wTx cI aX T ++ (wMo cI aM M hs))))) hP hD [0, 1, 2, 3, 4, 5, 6, 7, 8, 9, 10, 11, 12, 13, 14, 15, 16, 17, 18, 19, 20, 21, 22, 27, 28, 29, 30, 31, 32, 33, 34, 35, 36, 37, 38, 39, 40, 41, 42, 43, 44, 45, 46, 47, 48, 49, 50, 51, 52, 53, 54, 55, 56, 57, 58, 59, 60, 61, 62, 63, 64, 65, 66, 67, 68, 69, 70, 71, 72, 73, 74, 75, 76, 77, 78, 79, 80, 81, 82, 83, 84, 85, 86, 87, 88, 89, 90, 91, 92, 93, 94, 109] [23, 24, 25, 26, 95, 96, 97, 98, 99, 100, 101, 102, 103, 104, 105, 106, 107, 108] rfl rfl (by decide) hk1 hB [18, 19, 20, 21, 22, 23, 24, 25, 26, 27, 28, 29, 30, 31, 32, 33, 34, 35, 36, 37, 38, 39, 40, 0, 1, 2, 3, 41, 42, 43, 44, 45, 46, 47, 48, 49, 50, 51, 52, 53, 54, 55, 56, 57, 58, 59, 60, 61, 62, 63, 64, 65, 66, 67, 68, 69, 70, 71, 72, 73, 74, 75, 76, 77, 78, 79, 80, 81, 82, 83, 84, 85, 86, 87, 88, 89, 90, 91, 92, 93, 94, 95, 96, 97, 98, 99, 100, 101, 102, 103, 104, 105, 106, 107, 108, 4, 5, 6, 7, 8, 9, 10, 11, 12, 13, 14, 15, 16, 17, 109] rfl
  have hD := D_addr (w1 := wFm aF aN aT aL aO aH aP aX ++ (wSt cI aN S9 ++ (wSt cI aT R9 ++ (wLo cI aL Y ++ (wOu aO aN aL ++ (wHi cS aH ah G9 ++ (wZs cI ah Z9 ++ (wSn cI cZ aP N ++ (wTx cI aX T ++ (wMo cI aM M hs ++ (wOt cJ ao f9))))))))))) hD rfl
  refine lv_istore (lv' := [(5, .int k9), (0, .ref b), (1, .ref (aF 0)), (2, .ref (aM 0)), (3, .ref ao), (4, .int (nI i))]) hx hb dL_law_413 hl (by decide) rfl (fun ls hl => ?_)
  refine lv_aload_n hx hb dL_law_415 rfl (lv_at hl 3 rfl) ?_
  refine law_rd (k := 1) hx hb hX hbl hS hi hL (by decide) (by decide) (lv_at hl 1 rfl) (lv_at hl 5 rfl) dL_law_416 dL_law_417 dL_law_419 dL_law_420 dL_law_421 ?_
  refine law_rd (k := 2) hx hb hX hbl hS hi hL (by decide) (by decide) (lv_at hl 1 rfl) (lv_at hl 5 rfl) dL_law_422 dL_law_423 dL_law_425 dL_law_426 dL_law_427 ?_
  have hF := va_free (wc := wMo cI aM M hs) hD hS hA [100, 101, 102, 103, 104, 105, 106, 107, 108] rfl
  refine va_calli (va_runV (As := [.int (xs (i + 1)), .int (xs (i + 2))]) (rest := []) ⟨hx, hb, hml, hown, hts⟩ (met_X7_come l dC dI cI cZ cS aM M hs H1.size (xs (i + 1)) (xs (i + 2)) _ e7) (cwV 2 hts gL_law_X7_come rfl rfl rfl (by decide +kernel) ⟨(Nat.le_of_ble_eq_true rfl), (Nat.le_of_ble_eq_true rfl)⟩) (pV (wc := wMo cI aM M hs) (ci := 7) (q0 := 100) hK3 hP hD hN [100, 101, 102, 103, 104, 105, 106, 107, 108] rfl (by decide) rfl rfl) rfl rfl hl.1 rfl (lv_room (Nat.le_of_ble_eq_true rfl)) dL_law_428 ⟨hc, hsl⟩) hS (fun q _ h => hF q h) hF (fun b9 u t H2 locs ht hvm hw hB hz1 hk1 hS => ?_)
  try dsimp only at hw hB
  cases hw
  rw [ht] at hB
  have hP := wrk2 (w2 := wFm aF aN aT aL aO aH aP aX ++ (wSt cI aN S9 ++ (wSt cI aT R9 ++ (wLo cI aL Y ++ (wOu aO aN aL ++ (wHi cS aH ah G9 ++ (wZs cI ah Z9 ++ (wSn cI cZ aP N ++ (wTx cI aX T ++ (wMo cI aM M9 hs ++ (wOt cJ ao f9))))))))))) (wr := wFm aF aN aT aL aO aH aP aX ++ (wSt cI aN S9 ++ (wSt cI aT R9 ++ (wLo cI aL Y ++ (wOu aO aN aL ++ (wHi cS aH ah G9 ++ (wZs cI ah Z9 ++ (wSn cI cZ aP N ++ (wTx cI aX T ++ (wOt cJ ao f9)))))))))) hP hD [100, 101, 102, 103, 104, 105, 106, 107, 108] [0, 1, 2, 3, 4, 5, 6, 7, 8, 9, 10, 11, 12, 13, 14, 15, 16, 17, 18, 19, 20, 21, 22, 23, 24, 25, 26, 27, 28, 29, 30, 31, 32, 33, 34, 35, 36, 37, 38, 39, 40, 41, 42, 43, 44, 45, 46, 47, 48, 49, 50, 51, 52, 53, 54, 55, 56, 57, 58, 59, 60, 61, 62, 63, 64, 65, 66, 67, 68, 69, 70, 71, 72, 73, 74, 75, 76, 77, 78, 79, 80, 81, 82, 83, 84, 85, 86, 87, 88, 89, 90, 91, 92, 93, 94, 95, 96, 97, 98, 99, 109] rfl rfl (by decide) hk1 hB [0, 1, 2, 3, 4, 5, 6, 7, 8, 9, 10, 11, 12, 13, 14, 15, 16, 17, 18, 19, 20, 21, 22, 23, 24, 25, 26, 27, 28, 29, 30, 31, 32, 33, 34, 35, 36, 37, 38, 39, 40, 41, 42, 43, 44, 45, 46, 47, 48, 49, 50, 51, 52, 53, 54, 55, 56, 57, 58, 59, 60, 61, 62, 63, 64, 65, 66, 67, 68, 69, 70, 71, 72, 73, 74, 75, 76, 77, 78, 79, 80, 81, 82, 83, 84, 85, 86, 87, 88, 89, 90, 91, 92, 93, 94, 95, 96, 97, 98, 99, 101, 102, 103, 104, 105, 106, 107, 108, 109, 100] rfl
  have hD := D_addr (w1 := wFm aF aN aT aL aO aH aP aX ++ (wSt cI aN S9 ++ (wSt cI aT R9 ++ (wLo cI aL Y ++ (wOu aO aN aL ++ (wHi cS aH ah G9 ++ (wZs cI ah Z9 ++ (wSn cI cZ aP N ++ (wTx cI aX T ++ (wMo cI aM M9 hs ++ (wOt cJ ao f9))))))))))) hD rfl
  refine lv_istore (lv' := [(6, .int b0), (5, .int k9), (0, .ref b), (1, .ref (aF 0)), (2, .ref (aM 0)), (3, .ref ao), (4, .int (nI i))]) hx hb dL_law_431 hl (by decide) rfl (fun ls hl => ?_)
  refine lv_aload_n hx hb dL_law_433 rfl (lv_at hl 4 rfl) ?_
  refine va_calli (va_runV (As := []) (rest := []) ⟨hx, hb, hml, hown, hts⟩ (met_X7_thrown l dC dI cI cZ cS aM M9 hs H2.size) (cwV 0 hts gL_law_X7_thrown rfl rfl rfl (by decide +kernel) ⟨(Nat.le_of_ble_eq_true rfl), (Nat.le_of_ble_eq_true rfl)⟩) (pV (wc := wMo cI aM M9 hs) (ci := 7) (q0 := 100) hK3 hP hD hN [100, 101, 102, 103, 104, 105, 106, 107, 108] rfl (by decide) rfl rfl) rfl rfl hl.1 rfl (lv_room (Nat.le_of_ble_eq_true rfl)) dL_law_434 ⟨hc, hsl⟩) hS (fun q _ h => a0_in hS hA q h) (a0_in hS hA) (fun r9 u t H3 locs ht hvm hw hB hz1 hk1 hS => ?_)
  clear hB
  have hP := rdk hP hk1
  have hw : r9 = M9 7 0 := hw
  subst hw
  refine lv_iload hx hb dL_law_437 (lv_at hl 1 rfl) ?_
  refine lv_icmp_eq (tgt := 444) hx hb dL_law_439 (by decide) (fun _ => ?_) (fun q => absurd hcm.1.symm q)
  refine lv_iload hx hb dL_law_444 (lv_at hl 1 rfl) ?_
  refine lv_if_ne (tgt := 461) hx hb dL_law_446 (by decide) (fun q9 => ?_) (fun q9 => ?_)
  · refine lv_goto (tgt := 2002) hx hb dL_law_461 (by decide) ?_
    exact k _ _ ⟨S9, R9, Y, G9, Z9, N, T, M9, hs, f9, hI, hP, hD⟩ hS ls (lv_sub hl [2, 3, 4, 5, 6] rfl)
  · refine lv_aload_n hx hb dL_law_449 rfl (lv_at hl 5 rfl) ?_
    refine lv_iconst (v := (0 : Int32)) hx hb dL_law_450 (by decide) ?_
    refine va_lald hx hb hK hP 109 3 rfl rfl (by unfold vp_in; decide) dL_law_451 ?_
    refine lv_iload hx hb dL_law_452 (lv_at hl 0 rfl) ?_
    refine lv_i2l (v := b0.toInt64) hx hb dL_law_454 rfl ?_
    rw [show f9 (0 : Int32).toNatClampNeg = b0.toInt64 from hcm.2 q9]
    refine W.lcmp hx hb dL_law_455 ?_
    rw [lg_cmp_self]
    refine lv_if_eq (tgt := 461) hx hb dL_law_456 (by decide) (fun _ => ?_) (fun q => absurd rfl q)
    refine lv_goto (tgt := 2002) hx hb dL_law_461 (by decide) ?_
    exact k _ _ ⟨S9, R9, Y, G9, Z9, N, T, M9, hs, f9, hI, hP, hD⟩ hS ls (lv_sub hl [2, 3, 4, 5, 6] rfl)
