section ST1
variable {S G N T M : Pic} {Z : Nat → Pic}
theorem st_planned (I : INV S G Z N T M) (p1 p2 : Int32) : ∃ c r b M', f6_planned S p1 p2 = (c, r) ∧ f7_planned M p1 p2 = some (b, M') ∧ INV S G Z N T M' ∧ an [1] c r b M' := by
  obtain ⟨⟨dc, gc, h, w, g, -⟩, -⟩ := id I
  rw [f6_planned, f7_planned]
  rcases day_cs p1 with ⟨a, b⟩ | ⟨d, hd, rfl, a, b⟩
  · rw [if_pos a, if_pos b]
    exact ⟨1, 0, 0, _, rfl, rfl, I.e6 e7, an.th 0 rfl p7⟩
  · rw [if_neg (ne0 a), if_neg (ne0 b)]
    rcases part_cs p2 with ⟨a, b⟩ | ⟨p, hp, rfl, a, b⟩
    · rw [if_pos a, if_pos b]
      exact ⟨1, 0, 0, _, rfl, rfl, I.e6 e7, an.th 0 rfl p7⟩
    · have h' : Rel S ((pset M 7 (fun _ => (0 : Int32))) 0) dc gc := h
      rw [if_neg (ne0 a), if_neg (ne0 b), h'.at hd hp, ob1_some, f6_cellOf_nI, f6_at_nI (by omega) (by omega)]
      exact ⟨0, _, _, _, rfl, rfl, I.e6 e7, an.ok p7⟩
theorem st_setting (I : INV S G Z N T M) (p1 : Int32) : ∃ c r b M', f6_setting S p1 = (c, r) ∧ f7_setting M p1 = some (b, M') ∧ INV S G Z N T M' ∧ an [1] c r b M' := by
  obtain ⟨⟨dc, gc, h, w, g, -⟩, -⟩ := id I
  rw [f6_setting, f7_setting, f7_isSetting]
  rcases wi_cs p1 (a := 0) (b := 2) (by omega) (by omega) with ⟨a, b⟩ | ⟨k, -, hk, rfl, a, b⟩
  · rw [if_pos (show f6_isWithin p1 0 2 = 0 from a), if_pos (show f7_within p1 0 2 = 0 from b)]
    exact ⟨1, 0, 0, _, rfl, rfl, I.e6 e7, an.th 0 rfl p7⟩
  · rw [if_neg (show ¬ f6_isWithin (nI k) 0 2 = 0 by rw [show f6_isWithin (nI k) 0 2 = 1 from a]; decide), if_neg (show ¬ f7_within (nI k) 0 2 = 0 by rw [show f7_within (nI k) 0 2 = 1 from b]; decide), ck_nI (by omega) (by omega), ix_nI (by omega), f6_at_nI (by omega) (by omega), h.2.2.2.2.2.2.2.2.1 k (by omega)]
    exact ⟨0, _, _, _, rfl, rfl, I.e6 e7, an.ok p7⟩
theorem st_guest (I : INV S G Z N T M) (p1 p2 : Int32) : ∃ c r b M', f6_guest S p1 p2 = (c, r) ∧ f7_guest M p1 p2 = some (b, M') ∧ INV S G Z N T M' ∧ an [1, 2] c r b M' := by
  obtain ⟨⟨dc, gc, h, w, g, -⟩, -⟩ := id I
  rw [f6_guest, f7_guest]
  rcases guest_cs h p1 with ⟨a, b⟩ | ⟨d, hd, rfl, a, b⟩
  · rw [if_pos a, if_pos b]
    exact ⟨1, 0, 0, _, rfl, rfl, I.e6 e7, an.th 0 rfl p7⟩
  · rw [if_neg (ne0 a), if_neg (ne0 b)]
    rcases wi_cs p2 (a := 0) (b := 2) (by omega) (by omega) with ⟨a, b⟩ | ⟨k, -, hk, rfl, a, b⟩
    · rw [if_pos (show f6_isWithin p2 0 2 = 0 from a), if_pos (show f7_within p2 0 2 = 0 from b)]
      exact ⟨2, 0, 0, _, rfl, rfl, I.e6 e7, an.th 1 rfl p7⟩
    · have h' : Rel S ((pset M 7 (fun _ => (0 : Int32))) 0) dc gc := h
      rw [if_neg (show ¬ f6_isWithin (nI k) 0 2 = 0 by rw [show f6_isWithin (nI k) 0 2 = 1 from a]; decide), if_neg (show ¬ f7_within (nI k) 0 2 = 0 by rw [show f7_within (nI k) 0 2 = 1 from b]; decide), guestNow_eq h' hd hk, ob1_some]
      exact ⟨0, _, _, _, rfl, rfl, I.e6 e7, an.ok p7⟩
theorem st_day (I : INV S G Z N T M) (p1 p2 : Int32) : ∃ c r b M', f6_day S p1 p2 = (c, r) ∧ f7_day M p1 p2 = some (b, M') ∧ INV S G Z N T M' ∧ an [1, 2] c r b M' := by
  obtain ⟨⟨dc, gc, h, w, g, -⟩, -⟩ := id I
  rw [f6_day, f7_day]
  rcases day_cs p1 with ⟨a, b⟩ | ⟨d, hd, rfl, a, b⟩
  · rw [if_pos a, if_pos b]
    exact ⟨1, 0, 0, _, rfl, rfl, I.e6 e7, an.th 0 rfl p7⟩
  · rw [if_neg (ne0 a), if_neg (ne0 b)]
    rcases wi_cs p2 (a := 0) (b := 4) (by omega) (by omega) with ⟨a, b⟩ | ⟨k, -, hk, rfl, a, b⟩
    · rw [if_pos (show f6_isWithin p2 0 4 = 0 from a), if_pos (show f7_within p2 0 4 = 0 from b)]
      exact ⟨2, 0, 0, _, rfl, rfl, I.e6 e7, an.th 1 rfl p7⟩
    · have h' : Rel S ((pset M 7 (fun _ => (0 : Int32))) 0) dc gc := h
      rw [if_neg (show ¬ f6_isWithin (nI k) 0 4 = 0 by rw [show f6_isWithin (nI k) 0 4 = 1 from a]; decide), if_neg (show ¬ f7_within (nI k) 0 4 = 0 by rw [show f7_within (nI k) 0 4 = 1 from b]; decide), dayNow_eq h' w hd hk, ob1_some]
      exact ⟨0, _, _, _, rfl, rfl, I.e6 e7, an.ok p7⟩
theorem st_joyOn (I : INV S G Z N T M) (p1 p2 : Int32) : ∃ c r b M', f6_joyOn S p1 p2 = (c, r) ∧ f7_joyOn M p1 p2 = some (b, M') ∧ INV S G Z N T M' ∧ an [1] c r b M' := by
  obtain ⟨⟨dc, gc, h, w, g, -⟩, -⟩ := id I
  rw [f6_joyOn, f7_joyOn]
  rcases day_cs p1 with ⟨a, b⟩ | ⟨d, hd, rfl, a, b⟩
  · rw [if_pos a, if_pos b]
    exact ⟨1, 0, 0, _, rfl, rfl, I.e6 e7, an.th 0 rfl p7⟩
  · rw [if_neg (ne0 a), if_neg (ne0 b)]
    rcases dish_cs h p2 with ⟨a, b⟩ | ⟨e, he, rfl, a, b⟩
    · rw [if_pos a, if_pos b]
      exact ⟨1, 0, 0, _, rfl, rfl, I.e6 e7, an.th 0 rfl p7⟩
    · have h' : Rel S ((pset M 7 (fun _ => (0 : Int32))) 0) dc gc := h
      rw [if_neg (ne0 a), if_neg (ne0 b), joyNow_eq h' w (by omega) he, ob1_some]
      exact ⟨0, _, _, _, rfl, rfl, I.e6 e7, an.ok p7⟩
theorem st_dish (I : INV S G Z N T M) (Y : Pic) (p1 p2 : Int32) : ∃ c r Y' b M', f6_dish S Y p1 p2 = (c, r, Y') ∧ f7_dish M p1 p2 = some (b, M') ∧ INV S G Z N T M' ∧ an [1, 2] c r b M' := by
  obtain ⟨⟨dc, gc, h, w, g, -⟩, -⟩ := id I
  rw [f6_dish, f7_dish]
  rcases dish_cs h p1 with ⟨a, b⟩ | ⟨e, he, rfl, a, b⟩
  · rw [if_pos a, if_pos b]
    exact ⟨1, 0, Y, 0, _, rfl, rfl, I.e6 e7, an.th 0 rfl p7⟩
  · rw [if_neg (ne0 a), if_neg (ne0 b)]
    rcases wi_cs p2 (a := 0) (b := 8) (by omega) (by omega) with ⟨a, b⟩ | ⟨k, -, hk, rfl, a, b⟩
    · rw [if_pos (show f6_isWithin p2 0 8 = 0 from a), if_pos (show f7_within p2 0 8 = 0 from b)]
      exact ⟨2, 0, Y, 0, _, rfl, rfl, I.e6 e7, an.th 1 rfl p7⟩
    · have h' : Rel S ((pset M 7 (fun _ => (0 : Int32))) 0) dc gc := h
      obtain ⟨r, Y', M', x1, x2, x3⟩ := dishNow_eq Y h' w he hk
      rw [if_neg (show ¬ f6_isWithin (nI k) 0 8 = 0 by rw [show f6_isWithin (nI k) 0 8 = 1 from a]; decide), if_neg (show ¬ f7_within (nI k) 0 8 = 0 by rw [show f7_within (nI k) 0 8 = 1 from b]; decide), x1, x2, ob2_some]
      exact ⟨0, _, _, _, _, rfl, rfl, I.e6 (e7_fr x3), an.ok (p7_fr x3)⟩
theorem st_source (I : INV S G Z N T M) (Y : Pic) (p1 p2 : Int32) : ∃ c r Y' b M', f6_source S Y p1 p2 = (c, r, Y') ∧ f7_source M p1 p2 = some (b, M') ∧ INV S G Z N T M' ∧ an [1] c r b M' := by
  obtain ⟨⟨dc, gc, h, w, g, -⟩, -⟩ := id I
  rw [f6_source, f7_source]
  rcases day_cs p1 with ⟨a, b⟩ | ⟨d, hd, rfl, a, b⟩
  · rw [if_pos a, if_pos b]
    exact ⟨1, 0, Y, 0, _, rfl, rfl, I.e6 e7, an.th 0 rfl p7⟩
  · rw [if_neg (ne0 a), if_neg (ne0 b)]
    rcases part_cs p2 with ⟨a, b⟩ | ⟨p, hp, rfl, a, b⟩
    · rw [if_pos a, if_pos b]
      exact ⟨1, 0, Y, 0, _, rfl, rfl, I.e6 e7, an.th 0 rfl p7⟩
    · have h' : Rel S ((pset M 7 (fun _ => (0 : Int32))) 0) dc gc := h
      obtain ⟨r, Y', M', x1, x2, x3⟩ := source_eq Y h' w g hd hp
      rw [if_neg (ne0 a), if_neg (ne0 b), f6_cellOf_nI, x1, x2, ob2_some]
      exact ⟨0, _, _, _, _, rfl, rfl, I.e6 (e7_fr x3), an.ok (p7_fr x3)⟩
theorem st_count (I : INV S G Z N T M) (Y : Pic) (p1 : Int32) : ∃ c r Y' b M', f6_count S Y G N p1 = (c, r, Y') ∧ f7_count M p1 = some (b, M') ∧ INV S G Z N T M' ∧ an [2] c r b M' := by
  obtain ⟨⟨dc, gc, h, w, g, -⟩, hh, hn, -⟩ := id I
  rw [f6_count, f7_count]
  rcases wi_cs p1 (a := 0) (b := 13) (by omega) (by omega) with ⟨a, b⟩ | ⟨k, -, hk, rfl, a, b⟩
  · rw [if_pos (show f6_isWithin p1 0 13 = 0 from a), if_pos (show f7_within p1 0 13 = 0 from b)]
    exact ⟨2, 0, Y, 0, _, rfl, rfl, I.e6 e7, an.th 0 rfl p7⟩
  · have h' : Rel S ((pset M 7 (fun _ => (0 : Int32))) 0) dc gc := h
    have hh' : HR G Z (pset M 7 (fun _ => (0 : Int32))) := hh
    have hn' : SN N (pset M 7 (fun _ => (0 : Int32))) := hn
    obtain ⟨r, Y', M', x1, x2, x3⟩ := counted_eq Y h' w hh' hn' hk
    rw [if_neg (show ¬ f6_isWithin (nI k) 0 13 = 0 by rw [show f6_isWithin (nI k) 0 13 = 1 from a]; decide), if_neg (show ¬ f7_within (nI k) 0 13 = 0 by rw [show f7_within (nI k) 0 13 = 1 from b]; decide), x1, x2, ob2_some]
    exact ⟨0, _, _, _, _, rfl, rfl, I.e6 (e7_fr x3), an.ok (p7_fr x3)⟩
theorem st_whyNot (I : INV S G Z N T M) (Y : Pic) (p1 p2 p3 : Int32) : ∃ c r Y' b M', f6_whyNot S Y p1 p2 p3 = (c, r, S, Y') ∧ f7_whyNot M p1 p2 p3 = some (b, M') ∧ INV S G Z N T M' ∧ an [1] c r b M' := by
  obtain ⟨⟨dc, gc, h, w, g, -⟩, -⟩ := id I
  rw [f6_whyNot, f7_whyNot]
  rcases day_cs p1 with ⟨a, b⟩ | ⟨d, hd, rfl, a, b⟩
  · rw [if_pos a, if_pos b]
    exact ⟨1, 0, Y, 0, _, rfl, rfl, I.e6 e7, an.th 0 rfl p7⟩
  · rw [if_neg (ne0 a), if_neg (ne0 b)]
    rcases part_cs p2 with ⟨a, b⟩ | ⟨p, hp, rfl, a, b⟩
    · rw [if_pos a, if_pos b]
      exact ⟨1, 0, Y, 0, _, rfl, rfl, I.e6 e7, an.th 0 rfl p7⟩
    · rw [if_neg (ne0 a), if_neg (ne0 b)]
      rcases dish_cs h p3 with ⟨a, b⟩ | ⟨e, he, rfl, a, b⟩
      · rw [if_pos a, if_pos b]
        exact ⟨1, 0, Y, 0, _, rfl, rfl, I.e6 e7, an.th 0 rfl p7⟩
      · have h' : Rel S ((pset M 7 (fun _ => (0 : Int32))) 0) dc gc := h
        obtain ⟨r, Y', M', x1, x2, x3, -⟩ := reason_eq Y h' w g hd hp he
        rw [if_neg (ne0 a), if_neg (ne0 b), x1, x2, ob2_some]
        exact ⟨0, _, _, _, _, rfl, rfl, I.e6 (e7_fr x3), an.ok (p7_fr x3)⟩
theorem st_best (I : INV S G Z N T M) (Y : Pic) (p1 p2 : Int32) : ∃ c r Y' b M', f6_best S Y p1 p2 = some (c, r, S, Y') ∧ f7_best M p1 p2 = some (b, M') ∧ INV S G Z N T M' ∧ an [1] c r b M' := by
  obtain ⟨⟨dc, gc, h, w, g, -⟩, -⟩ := id I
  rw [f6_best, f7_best]
  rcases day_cs p1 with ⟨a, b⟩ | ⟨d, hd, rfl, a, b⟩
  · rw [if_pos a, if_pos b]
    exact ⟨1, 0, Y, 0, _, rfl, rfl, I.e6 e7, an.th 0 rfl p7⟩
  · rw [if_neg (ne0 a), if_neg (ne0 b)]
    rcases part_cs p2 with ⟨a, b⟩ | ⟨p, hp, rfl, a, b⟩
    · rw [if_pos a, if_pos b]
      exact ⟨1, 0, Y, 0, _, rfl, rfl, I.e6 e7, an.th 0 rfl p7⟩
    · have h' : Rel S ((pset M 7 (fun _ => (0 : Int32))) 0) dc gc := h
      obtain ⟨r, Y', M', x1, x2, x3, -⟩ := bestFor_eq Y h' w g hd hp
      rw [if_neg (ne0 a), if_neg (ne0 b), x1, x2, ob2_some]
      exact ⟨0, _, _, _, _, rfl, rfl, I.e6 (e7_fr x3), an.ok (p7_fr x3)⟩
theorem st_gain (I : INV S G Z N T M) (Y : Pic) (p1 p2 : Int32) : ∃ c r Y' b M', f6_gain S Y p1 p2 = (c, r, S, Y') ∧ f7_gain M p1 p2 = some (b, M') ∧ INV S G Z N T M' ∧ an [1] c r b M' := by
  obtain ⟨⟨dc, gc, h, w, g, -⟩, -⟩ := id I
  rw [f6_gain, f7_gain]
  rcases day_cs p1 with ⟨a, b⟩ | ⟨d, hd, rfl, a, b⟩
  · rw [if_pos a, if_pos b]
    exact ⟨1, 0, Y, 0, _, rfl, rfl, I.e6 e7, an.th 0 rfl p7⟩
  · rw [if_neg (ne0 a), if_neg (ne0 b)]
    rcases dish_cs h p2 with ⟨a, b⟩ | ⟨e, he, rfl, a, b⟩
    · rw [if_pos a, if_pos b]
      exact ⟨1, 0, Y, 0, _, rfl, rfl, I.e6 e7, an.th 0 rfl p7⟩
    · have h' : Rel S ((pset M 7 (fun _ => (0 : Int32))) 0) dc gc := h
      have hdc := h.1
      obtain ⟨⟨p, hp, h1⟩, -⟩ := w.1 e he
      obtain ⟨r, Y', M', x1, x2, x3, ho⟩ := canServe_eq Y h' w g hd he hp h1
      rw [if_neg (ne0 a), if_neg (ne0 b), f6_at_nI (by omega) (by omega), h1, x1, x2, ob2_some]
      simp only [bd3]
      by_cases c : r = 0
      · obtain ⟨M2, z1, z2⟩ := gain_eq (x3.rel h') w hd hp he h1 (ho c).1
        rw [if_pos c, if_pos c, if_neg (by decide), z1, ob2_some]
        exact ⟨0, _, _, _, _, rfl, rfl, I.e6 (e7_fr (x3.trans z2)), an.ok (p7_fr (x3.trans z2))⟩
      · rw [if_neg c, if_neg c, if_pos rfl]
        exact ⟨0, _, _, _, _, rfl, rfl, I.e6 (e7_fr x3), an.ok (p7_fr x3)⟩
theorem st_bestDay (I : INV S G Z N T M) (Y : Pic) (p1 : Int32) : ∃ c r Y' b M', f6_bestDay S Y p1 = (c, r, S, Y') ∧ f7_bestDay M p1 = some (b, M') ∧ INV S G Z N T M' ∧ an [1] c r b M' := by
  obtain ⟨⟨dc, gc, h, w, g, -⟩, -⟩ := id I
  rw [f6_bestDay, f7_bestDay]
  rcases dish_cs h p1 with ⟨a, b⟩ | ⟨e, he, rfl, a, b⟩
  · rw [if_pos a, if_pos b]
    exact ⟨1, 0, Y, 0, _, rfl, rfl, I.e6 e7, an.th 0 rfl p7⟩
  · have h' : Rel S ((pset M 7 (fun _ => (0 : Int32))) 0) dc gc := h
    obtain ⟨r, Y', M', x1, x2, x3⟩ := dayFor_eq Y h' w g he
    rw [if_neg (ne0 a), if_neg (ne0 b), x1, x2, ob2_some]
    exact ⟨0, _, _, _, _, rfl, rfl, I.e6 (e7_fr x3), an.ok (p7_fr x3)⟩
end ST1
