/-! the law's loop -/
theorem law_sw (x : Int32) : ∃ k : Nat, k < 32 ∧ x &&& 31 = nI k := by
  refine ⟨x.toBitVec.toNat % 32, Nat.mod_lt _ (by decide), ?_⟩
  apply Int32.toBitVec_inj.1
  rw [Int32.toBitVec_and]
  apply BitVec.eq_of_toNat_eq
  show x.toBitVec.toNat &&& 31 = (BitVec.ofNat 32 (x.toBitVec.toNat % 32)).toNat
  rw [BitVec.toNat_ofNat, show (31 : Nat) = 2 ^ 5 - 1 from rfl, Nat.and_two_pow_sub_one_eq_mod, Nat.mod_eq_of_lt (Nat.lt_of_lt_of_le (Nat.mod_lt x.toBitVec.toNat (show 0 < 32 by decide)) (by decide))]
theorem law_gt {L i : Nat} (hL : L ≤ 2560) (hi : i ≤ 2560) : (Int32.ofNat L - 5 < nI i) ↔ L < i + 5 := by
  have h : (nI L - nI 5).toInt = (L : Int) - 5 := pk_sub_toInt (a := L) (b := 5) (by omega) (by omega)
  show (nI L - nI 5 < nI i) ↔ _
  rw [Int32.lt_iff_toInt_lt, h, nI_toInt (by omega)]
  omega
set_option maxHeartbeats 4000000 in
set_option maxRecDepth 100000 in
theorem law_loop {p : Program} {e : Env} {s : State} {m : MethodId} {below : List Frame} {meth : Method} {c : Code} (l : Launch) (hfl : l.stackTraces = false) {dC : Nat → ClassId} {dI : Nat → Nat → Nat} {cI cZ cS cJ : ClassId} {b L : Nat} {xs : Nat → Int32} {aF aN aT aL aO aH : Nat → Nat} {ah : Nat → Nat → Nat} {aP aX aM : Nat → Nat} {ao : Nat} (C : LC dC dI cI cZ cS cJ p s m c b L xs) (hr : meth.sig.returnType = ret) (hlocks : meth.locks = false) : ∀ (n j cells slots : Nat), L < 5 * j + 5 * n + 5 → 5 * j ≤ 2560 → cells + n ≤ 601024 → slots + 6 * n ≤ 7293034 → ∀ (H : Heap) (locs : List Loc), LI dC dI cI cZ cS cJ aF aN aT aL aO aH ah aP aX aM ao s H → va_S (fun q : Nat => s.heap.size ≤ q) s.heap H locs → ∀ ls : Array Slot, lv_has ls 9 [(0, .ref b), (1, .ref (aF 0)), (2, .ref (aM 0)), (3, .ref ao), (4, .int (nI (5 * j)))] → W p l e room_1 s m #[Value.ref b] below meth c H locs cells slots (lw_Z below #[Value.ref b] s) (F0 m 23 ls []) := by
  have hx := C.1
  have hb := C.2.1
  have hX := C.2.2.2.2.2.2.2.2.2.1
  have hbl := C.2.2.2.2.2.2.2.2.2.2.1
  have hL := C.2.2.2.2.2.2.2.2.2.2.2
  intro n
  induction n with
  | zero =>
    intro j cells slots h1 h2 h3 h4 H locs I hS ls hl
    refine lv_iload hx hb dL_law_23 (lv_at hl 4 rfl) ?_
    refine lv_aload_n hx hb dL_law_25 rfl (lv_at hl 0 rfl) ?_
    refine va_slen hx hb hX hbl (Nat.not_le.mpr hbl) hS dL_law_26 ?_
    refine lv_iconst (v := (5 : Int32)) hx hb dL_law_27 (by decide) ?_
    refine lv_isub hx hb dL_law_28 ?_
    refine lv_icmp_gt (tgt := 2008) hx hb dL_law_29 (by decide) (fun _ => ?_) (fun q => absurd ((law_gt hL h2).mpr (by omega)) q)
    refine lv_iconst (v := (1 : Int32)) hx hb dL_law_2008 (by decide) ?_
    refine va_forget (fun q hq => hS.2.2 q hq) ?_
    refine W.widen (k := 601024) (n := 7293034) (by omega) (by omega) ?_
    exact lw_ret (d0 := s.drawn) (Drawn.sameBut.refl s.drawn lw_cs) hx hb hr hlocks dL_law_2009
  | succ n ih =>
    intro j cells slots h1 h2 h3 h4 H locs I hS ls hl
    refine lv_iload hx hb dL_law_23 (lv_at hl 4 rfl) ?_
    refine lv_aload_n hx hb dL_law_25 rfl (lv_at hl 0 rfl) ?_
    refine va_slen hx hb hX hbl (Nat.not_le.mpr hbl) hS dL_law_26 ?_
    refine lv_iconst (v := (5 : Int32)) hx hb dL_law_27 (by decide) ?_
    refine lv_isub hx hb dL_law_28 ?_
    refine lv_icmp_gt (tgt := 2008) hx hb dL_law_29 (by decide) (fun _ => ?_) (fun q => ?_)
    · refine lv_iconst (v := (1 : Int32)) hx hb dL_law_2008 (by decide) ?_
      refine va_forget (fun q hq => hS.2.2 q hq) ?_
      refine W.widen (k := 601024) (n := 7293034) (by omega) (by omega) ?_
      exact lw_ret (d0 := s.drawn) (Drawn.sameBut.refl s.drawn lw_cs) hx hb hr hlocks dL_law_2009
    have hi : 5 * j + 5 ≤ L := by
      rcases Nat.lt_or_ge L (5 * j + 5) with z | z
      · exact absurd ((law_gt hL h2).mpr z) q
      · exact z
    have hc : cells + 1 ≤ 601024 := by omega
    have hsl : slots + 6 ≤ 7293034 := by omega
    have K : ∀ (H : Heap) (locs : List Loc), LI dC dI cI cZ cS cJ aF aN aT aL aO aH ah aP aX aM ao s H → va_S (fun q : Nat => s.heap.size ≤ q) s.heap H locs → ∀ ls : Array Slot, lv_has ls 9 [(0, .ref b), (1, .ref (aF 0)), (2, .ref (aM 0)), (3, .ref ao), (4, .int (nI (5 * j)))] → W p l e room_1 s m #[Value.ref b] below meth c H locs (cells + 1) (slots + 6) (lw_Z below #[Value.ref b] s) (F0 m 2002 ls []) := by
      intro H locs I hS ls hl
      refine lv_iinc (v := nI (5 * (j + 1))) (lv' := [(4, .int (nI (5 * (j + 1)))), (0, .ref b), (1, .ref (aF 0)), (2, .ref (aM 0)), (3, .ref ao)]) hx hb dL_law_2002 hl (k := 4) rfl (nI_add (5 * j) 5) (by decide) rfl (fun ls hl => ?_)
      refine lv_goto (tgt := 23) hx hb dL_law_2005 (by decide) ?_
      exact ih (j + 1) _ _ (by omega) (by omega) (by omega) (by omega) H locs I hS ls (lv_sub hl [1, 2, 3, 4, 0] rfl)
    refine lv_aload_n hx hb dL_law_32 rfl (lv_at hl 0 rfl) ?_
    refine lv_iload hx hb dL_law_33 (lv_at hl 4 rfl) ?_
    refine va_sld hx hb hX hbl (Nat.not_le.mpr hbl) hS (nI_in (by omega) (by omega)) dL_law_35 ?_
    refine lv_bipush (v := (31 : Int32)) hx hb dL_law_36 (by decide) ?_
    refine lv_iand hx hb dL_law_38 ?_
    obtain ⟨k, hk, ek⟩ := law_sw (xs (nI (5 * j)).toNatClampNeg)
    rw [ek]
    clear ek
    have cs : k = 0 ∨ k = 1 ∨ k = 2 ∨ k = 3 ∨ k = 4 ∨ k = 5 ∨ k = 6 ∨ k = 7 ∨ k = 8 ∨ k = 9 ∨ k = 10 ∨ k = 11 ∨ k = 12 ∨ k = 13 ∨ k = 14 ∨ k = 15 ∨ k = 16 ∨ k = 17 ∨ k = 18 ∨ k = 19 ∨ k = 20 ∨ k = 21 ∨ k = 22 ∨ k = 23 ∨ k = 24 ∨ k = 25 ∨ k = 26 ∨ k = 27 ∨ k = 28 ∨ k = 29 ∨ k = 30 ∨ k = 31 := by omega
    rcases cs with rfl | rfl | rfl | rfl | rfl | rfl | rfl | rfl | rfl | rfl | rfl | rfl | rfl | rfl | rfl | rfl | rfl | rfl | rfl | rfl | rfl | rfl | rfl | rfl | rfl | rfl | rfl | rfl | rfl | rfl | rfl | rfl
    · exact lv_tableIn (off := 141) (tgt := 180) hx hb dL_law_39 (by decide +kernel) (by decide +kernel) (by decide +kernel) (by decide) (law_c_addDish l hfl C hi hc hsl I hS hl K)
    · exact lv_tableIn (off := 233) (tgt := 272) hx hb dL_law_39 (by decide +kernel) (by decide +kernel) (by decide +kernel) (by decide) (law_c_leave l hfl C hi hc hsl I hS hl K)
    · exact lv_tableIn (off := 313) (tgt := 352) hx hb dL_law_39 (by decide +kernel) (by decide +kernel) (by decide +kernel) (by decide) (law_c_addGuest l hfl C hi hc hsl I hS hl K)
    · exact lv_tableIn (off := 357) (tgt := 396) hx hb dL_law_39 (by decide +kernel) (by decide +kernel) (by decide +kernel) (by decide) (law_c_come l hfl C hi hc hsl I hS hl K)
    · exact lv_tableIn (off := 425) (tgt := 464) hx hb dL_law_39 (by decide +kernel) (by decide +kernel) (by decide +kernel) (by decide) (law_c_veto l hfl C hi hc hsl I hS hl K)
    · exact lv_tableIn (off := 493) (tgt := 532) hx hb dL_law_39 (by decide +kernel) (by decide +kernel) (by decide +kernel) (by decide) (law_c_set l hfl C hi hc hsl I hS hl K)
    · exact lv_tableIn (off := 561) (tgt := 600) hx hb dL_law_39 (by decide +kernel) (by decide +kernel) (by decide +kernel) (by decide) (law_c_serve l hfl C hi hc hsl I hS hl K)
    · exact lv_tableIn (off := 629) (tgt := 668) hx hb dL_law_39 (by decide +kernel) (by decide +kernel) (by decide +kernel) (by decide) (law_c_drop l hfl C hi hc hsl I hS hl K)
    · exact lv_tableIn (off := 697) (tgt := 736) hx hb dL_law_39 (by decide +kernel) (by decide +kernel) (by decide +kernel) (by decide) (law_c_exchange l hfl C hi hc hsl I hS hl K)
    · exact lv_tableIn (off := 765) (tgt := 804) hx hb dL_law_39 (by decide +kernel) (by decide +kernel) (by decide +kernel) (by decide) (law_c_fill l hfl C hi hc hsl I hS hl K)
    · exact lv_tableIn (off := 821) (tgt := 860) hx hb dL_law_39 (by decide +kernel) (by decide +kernel) (by decide +kernel) (by decide) (law_c_clear l hfl C hi hc hsl I hS hl K)
    · exact lv_tableIn (off := 834) (tgt := 873) hx hb dL_law_39 (by decide +kernel) (by decide +kernel) (by decide +kernel) (by decide) (law_c_append l hfl C hi hc hsl I hS hl K)
    · exact lv_tableIn (off := 890) (tgt := 929) hx hb dL_law_39 (by decide +kernel) (by decide +kernel) (by decide +kernel) (by decide) (law_c_clearBuffer l hfl C hi hc hsl I hS hl K)
    · exact lv_tableIn (off := 903) (tgt := 942) hx hb dL_law_39 (by decide +kernel) (by decide +kernel) (by decide +kernel) (by decide) (law_c_firstError l hfl C hi hc hsl I hS hl K)
    · exact lv_tableIn (off := 916) (tgt := 955) hx hb dL_law_39 (by decide +kernel) (by decide +kernel) (by decide +kernel) (by decide) (law_c_read l hfl C hi hc hsl I hS hl K)
    · exact lv_tableIn (off := 960) (tgt := 999) hx hb dL_law_39 (by decide +kernel) (by decide +kernel) (by decide +kernel) (by decide) (law_c_take l hfl C hi hc hsl I hS hl K)
    · exact lv_tableIn (off := 1016) (tgt := 1055) hx hb dL_law_39 (by decide +kernel) (by decide +kernel) (by decide +kernel) (by decide) (law_c_restore l hfl C hi hc hsl I hS hl K)
    · exact lv_tableIn (off := 1072) (tgt := 1111) hx hb dL_law_39 (by decide +kernel) (by decide +kernel) (by decide +kernel) (by decide) (law_c_undo l hfl C hi hc hsl I hS hl K)
    · exact lv_tableIn (off := 1116) (tgt := 1155) hx hb dL_law_39 (by decide +kernel) (by decide +kernel) (by decide +kernel) (by decide) (law_c_planned l hfl C hi hc hsl I hS hl K)
    · exact lv_tableIn (off := 1184) (tgt := 1223) hx hb dL_law_39 (by decide +kernel) (by decide +kernel) (by decide +kernel) (by decide) (law_c_dish l hfl C hi hc hsl I hS hl K)
    · exact lv_tableIn (off := 1252) (tgt := 1291) hx hb dL_law_39 (by decide +kernel) (by decide +kernel) (by decide +kernel) (by decide) (law_c_guest l hfl C hi hc hsl I hS hl K)
    · exact lv_tableIn (off := 1320) (tgt := 1359) hx hb dL_law_39 (by decide +kernel) (by decide +kernel) (by decide +kernel) (by decide) (law_c_day l hfl C hi hc hsl I hS hl K)
    · exact lv_tableIn (off := 1388) (tgt := 1427) hx hb dL_law_39 (by decide +kernel) (by decide +kernel) (by decide +kernel) (by decide) (law_c_source l hfl C hi hc hsl I hS hl K)
    · exact lv_tableIn (off := 1456) (tgt := 1495) hx hb dL_law_39 (by decide +kernel) (by decide +kernel) (by decide +kernel) (by decide) (law_c_count l hfl C hi hc hsl I hS hl K)
    · exact lv_tableIn (off := 1512) (tgt := 1551) hx hb dL_law_39 (by decide +kernel) (by decide +kernel) (by decide +kernel) (by decide) (law_c_setting l hfl C hi hc hsl I hS hl K)
    · exact lv_tableIn (off := 1568) (tgt := 1607) hx hb dL_law_39 (by decide +kernel) (by decide +kernel) (by decide +kernel) (by decide) (law_c_whyNot l hfl C hi hc hsl I hS hl K)
    · exact lv_tableIn (off := 1648) (tgt := 1687) hx hb dL_law_39 (by decide +kernel) (by decide +kernel) (by decide +kernel) (by decide) (law_c_joyOn l hfl C hi hc hsl I hS hl K)
    · exact lv_tableIn (off := 1716) (tgt := 1755) hx hb dL_law_39 (by decide +kernel) (by decide +kernel) (by decide +kernel) (by decide) (law_c_best l hfl C hi hc hsl I hS hl K)
    · exact lv_tableIn (off := 1784) (tgt := 1823) hx hb dL_law_39 (by decide +kernel) (by decide +kernel) (by decide +kernel) (by decide) (law_c_gain l hfl C hi hc hsl I hS hl K)
    · exact lv_tableIn (off := 1852) (tgt := 1891) hx hb dL_law_39 (by decide +kernel) (by decide +kernel) (by decide +kernel) (by decide) (law_c_bestDay l hfl C hi hc hsl I hS hl K)
    · exact lv_tableIn (off := 1908) (tgt := 1947) hx hb dL_law_39 (by decide +kernel) (by decide +kernel) (by decide +kernel) (by decide) (law_c_usedShare l hfl C hi hc hsl I hS hl K)
    · exact lv_tableIn (off := 1949) (tgt := 1988) hx hb dL_law_39 (by decide +kernel) (by decide +kernel) (by decide +kernel) (by decide) (law_c_digest l hfl C hi hc hsl I hS hl K)
