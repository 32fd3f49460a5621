/-! what each method answers, as functions: laid by program from the code -/

def f6_isWithin (p1 : Int32) (p2 : Int32) (p3 : Int32) : Int32 := (if p1 < p2 then (0 : Int32) else (if p3 < p1 then (0 : Int32) else (1 : Int32)))

def f6_isDay (p1 : Int32) : Int32 := (if p1 < 0 then (0 : Int32) else (if (28 : Int32) ≤ p1 then (0 : Int32) else (1 : Int32)))

def f6_isPart (p1 : Int32) : Int32 := (if p1 < 0 then (0 : Int32) else (if (3 : Int32) ≤ p1 then (0 : Int32) else (1 : Int32)))

def f6_cellOf (p1 : Int32) (p2 : Int32) : Int32 := ((p1 * (3 : Int32)) + p2)

def f6_leastValue (p1 : Int32) : Int32 := (if p1 = (1 : Int32) then (1 : Int32) else (0 : Int32))

def f6_greatestValue (p1 : Int32) : Int32 := (if p1 = 0 then (9 : Int32) else (if p1 = (1 : Int32) then (10 : Int32) else (999 : Int32)))

def f6_at (n : Nat) (f : (Nat → Int32)) (p2 : Int32) : Int32 := (if p2 < 0 then (-1 : Int32) else (if (nI n) ≤ p2 then (-1 : Int32) else (f (ix p2))))

def f6_put (n : Nat) (f : (Nat → Int32)) (p2 : Int32) (p3 : Int32) : (Nat → Int32) := (if p2 < 0 then f else (if (nI n) ≤ p2 then f else (bd (upd f (ix p2) p3) (fun fb3 => fb3))))

def f5_hasDish (S : Pic) (p1 : Int32) : Int32 := (if p1 < 0 then (0 : Int32) else (if ((S 0) 0) ≤ p1 then (0 : Int32) else (1 : Int32)))

def f5_hasGuest (S : Pic) (p1 : Int32) : Int32 := (if p1 < 0 then (0 : Int32) else (if ((S 7) 0) ≤ p1 then (0 : Int32) else (1 : Int32)))
def f5_isLeftover_L2 (S : Pic) (p1 : Int32) : Nat → Int32 → (Int32) → Int32
  | 0, x2_2, k => (k)
  | fu + 1, x2_2, k => (if ((S 0) 0) ≤ x2_2 then (k) else (if (f6_at 12 (S 5) x2_2) = p1 then (1 : Int32) else (f5_isLeftover_L2 S p1 fu (x2_2 + 1) k)))

def f5_isLeftover (S : Pic) (p1 : Int32) : Int32 := (f5_isLeftover_L2 S p1 (fuelN (0 : Int32) ((S 0) 0)) (0 : Int32) (0 : Int32))
def f5_timesPlanned_L4 (S : Pic) (p1 : Int32) : Nat → Int32 → Int32 → (Int32 → Int32) → Int32
  | 0, x2_4, x3_4, k => (k x2_4)
  | fu + 1, x2_4, x3_4, k => (if (84 : Int32) ≤ x3_4 then (k x2_4) else (if (f6_at 84 (S 11) x3_4) = p1 then (f5_timesPlanned_L4 S p1 fu (x2_4 + 1) (x3_4 + 1) k) else (f5_timesPlanned_L4 S p1 fu x2_4 (x3_4 + 1) k)))

def f5_timesPlanned (S : Pic) (p1 : Int32) : Int32 := (f5_timesPlanned_L4 S p1 84 (0 : Int32) (0 : Int32) (fun x2_4 => x2_4))

def f5_planCount (S : Pic) : Int32 := (bd (f5_timesPlanned S (-1 : Int32)) (fun r1 => ((84 : Int32) - r1)))
def f5_mealCost_L4 (S : Pic) (p1 : Int32) : Nat → Int32 → Int32 → (Int32 → Int32) → Int32
  | 0, x2_4, x3_4, k => (k x2_4)
  | fu + 1, x2_4, x3_4, k => (if (3 : Int32) ≤ x3_4 then (k x2_4) else (bd (f6_at 84 (S 11) (f6_cellOf p1 x3_4)) (fun v5 => (if v5 = (-1 : Int32) then (f5_mealCost_L4 S p1 fu x2_4 (x3_4 + 1) k) else (bd (x2_4 + (f6_at 12 (S 2) v5)) (fun v8 => (f5_mealCost_L4 S p1 fu v8 (x3_4 + 1) k)))))))

def f5_mealCost (S : Pic) (p1 : Int32) : Int32 := (f5_mealCost_L4 S p1 3 (0 : Int32) (0 : Int32) (fun x2_4 => x2_4))
def f5_weekCost_L10 (S : Pic) (v1 : Int32) : Nat → Int32 → Int32 → (Int32 → Int32) → Int32
  | 0, x2_10, x4_10, k => (k x2_10)
  | fu + 1, x2_10, x4_10, k => (if (v1 + (7 : Int32)) ≤ x4_10 then (k x2_10) else (bd (f5_mealCost S x4_10) (fun r4 => (bd (x2_10 + r4) (fun v5 => (f5_weekCost_L10 S v1 fu v5 (x4_10 + 1) k))))))

def f5_weekCost (S : Pic) (p1 : Int32) : Int32 := (bd (p1 * (7 : Int32)) (fun v1 => (f5_weekCost_L10 S v1 (fuelN v1 (v1 + (7 : Int32))) (0 : Int32) v1 (fun x2_10 => x2_10))))
def f5_planCost_L4 (S : Pic) : Nat → Int32 → Int32 → (Int32 → Int32) → Int32
  | 0, x1_4, x2_4, k => (k x1_4)
  | fu + 1, x1_4, x2_4, k => (if (4 : Int32) ≤ x2_4 then (k x1_4) else (bd (f5_weekCost S x2_4) (fun r3 => (bd (x1_4 + r3) (fun v4 => (f5_planCost_L4 S fu v4 (x2_4 + 1) k))))))

def f5_planCost (S : Pic) : Int32 := (f5_planCost_L4 S 4 (0 : Int32) (0 : Int32) (fun x1_4 => x1_4))
def f5_isAboveBudget_L2 (S : Pic) : Nat → Int32 → (Int32) → Int32
  | 0, x1_2, k => (k)
  | fu + 1, x1_2, k => (if (4 : Int32) ≤ x1_2 then (k) else (bd (f5_weekCost S x1_2) (fun r3 => (if r3 ≤ (f6_at 3 (S 10) (2 : Int32)) then (f5_isAboveBudget_L2 S fu (x1_2 + 1) k) else (1 : Int32)))))

def f5_isAboveBudget (S : Pic) : Int32 := (f5_isAboveBudget_L2 S 4 (0 : Int32) (0 : Int32))
def f5_mealCount_L4 (S : Pic) (p1 : Int32) : Nat → Int32 → Int32 → (Int32 → Int32) → Int32
  | 0, x2_4, x3_4, k => (k x2_4)
  | fu + 1, x2_4, x3_4, k => (if (3 : Int32) ≤ x3_4 then (k x2_4) else (if (f6_at 84 (S 11) (f6_cellOf p1 x3_4)) = (-1 : Int32) then (f5_mealCount_L4 S p1 fu x2_4 (x3_4 + 1) k) else (f5_mealCount_L4 S p1 fu (x2_4 + 1) (x3_4 + 1) k)))

def f5_mealCount (S : Pic) (p1 : Int32) : Int32 := (f5_mealCount_L4 S p1 3 (0 : Int32) (0 : Int32) (fun x2_4 => x2_4))
def f5_wholeMeals_L4 (S : Pic) : Nat → Int32 → Int32 → (Int32 → Int32) → Int32
  | 0, x1_4, x2_4, k => (k x1_4)
  | fu + 1, x1_4, x2_4, k => (if (28 : Int32) ≤ x2_4 then (k x1_4) else (bd (f5_mealCount S x2_4) (fun r3 => (if r3 = (3 : Int32) then (f5_wholeMeals_L4 S fu (x1_4 + 1) (x2_4 + 1) k) else (f5_wholeMeals_L4 S fu x1_4 (x2_4 + 1) k)))))

def f5_wholeMeals (S : Pic) : Int32 := (f5_wholeMeals_L4 S 28 (0 : Int32) (0 : Int32) (fun x1_4 => x1_4))
def f5_sourceCount_L4 (S : Pic) : Nat → Int32 → Int32 → (Int32 → Int32) → Int32
  | 0, x1_4, x2_4, k => (k x1_4)
  | fu + 1, x1_4, x2_4, k => (if (84 : Int32) ≤ x2_4 then (k x1_4) else (if (f6_at 12 (S 5) (f6_at 84 (S 11) x2_4)) = (-1 : Int32) then (f5_sourceCount_L4 S fu x1_4 (x2_4 + 1) k) else (f5_sourceCount_L4 S fu (x1_4 + 1) (x2_4 + 1) k)))

def f5_sourceCount (S : Pic) : Int32 := (f5_sourceCount_L4 S 84 (0 : Int32) (0 : Int32) (fun x1_4 => x1_4))

def f5_comesOn (S : Pic) (p1 : Int32) (p2 : Int32) : Int32 := (if (((f6_at 6 (S 8) p1) >>> ((p2 - p2 / (7 : Int32) * (7 : Int32)) &&& 31)) &&& (1 : Int32)) = (1 : Int32) then (1 : Int32) else (0 : Int32))
def f5_guestsOn_L4 (S : Pic) (p1 : Int32) : Nat → Int32 → Int32 → (Int32 → Int32) → Int32
  | 0, x2_4, x3_4, k => (k x2_4)
  | fu + 1, x2_4, x3_4, k => (if ((S 7) 0) ≤ x3_4 then (k x2_4) else (bd (f5_comesOn S x3_4 p1) (fun r3 => (if r3 = 0 then (f5_guestsOn_L4 S p1 fu x2_4 (x3_4 + 1) k) else (f5_guestsOn_L4 S p1 fu (x2_4 + 1) (x3_4 + 1) k)))))

def f5_guestsOn (S : Pic) (p1 : Int32) : Int32 := (f5_guestsOn_L4 S p1 (fuelN (0 : Int32) ((S 7) 0)) (0 : Int32) (0 : Int32) (fun x2_4 => x2_4))
def f5_dishesBefore_L4 (S : Pic) (p1 : Int32) : Nat → Int32 → Int32 → (Int32 → Int32) → Int32
  | 0, x2_4, x3_4, k => (k x2_4)
  | fu + 1, x2_4, x3_4, k => (if (28 : Int32) ≤ x3_4 then (k x2_4) else (bd (f5_comesOn S p1 x3_4) (fun r3 => (if r3 = 0 then (f5_dishesBefore_L4 S p1 fu x2_4 (x3_4 + 1) k) else (bd (f5_mealCount S x3_4) (fun r6 => (bd (x2_4 + r6) (fun v7 => (f5_dishesBefore_L4 S p1 fu v7 (x3_4 + 1) k)))))))))

def f5_dishesBefore (S : Pic) (p1 : Int32) : Int32 := (f5_dishesBefore_L4 S p1 28 (0 : Int32) (0 : Int32) (fun x2_4 => x2_4))
def f5_vetoedTastes_L4 (S : Pic) (p1 : Int32) : Nat → Int32 → Int32 → (Int32 → Int32) → Int32
  | 0, x2_4, x3_4, k => (k x2_4)
  | fu + 1, x2_4, x3_4, k => (if ((S 7) 0) ≤ x3_4 then (k x2_4) else (bd (f5_comesOn S x3_4 p1) (fun r3 => (if r3 = 0 then (f5_vetoedTastes_L4 S p1 fu x2_4 (x3_4 + 1) k) else (bd (x2_4 ||| (f6_at 6 (S 9) x3_4)) (fun v7 => (f5_vetoedTastes_L4 S p1 fu v7 (x3_4 + 1) k)))))))

def f5_vetoedTastes (S : Pic) (p1 : Int32) : Int32 := (f5_vetoedTastes_L4 S p1 (fuelN (0 : Int32) ((S 7) 0)) (0 : Int32) (0 : Int32) (fun x2_4 => x2_4))

def f5_isVetoed (S : Pic) (p1 : Int32) (p2 : Int32) : Int32 := (bd (f5_vetoedTastes S p1) (fun r1 => (if ((r1 >>> ((f6_at 12 (S 3) p2) &&& 31)) &&& (1 : Int32)) = (1 : Int32) then (1 : Int32) else (0 : Int32))))
def f5_hasVetoedDish_L2 (S : Pic) : Nat → Int32 → (Int32) → Int32
  | 0, x1_2, k => (k)
  | fu + 1, x1_2, k => (if (84 : Int32) ≤ x1_2 then (k) else (bd (f6_at 84 (S 11) x1_2) (fun v4 => (if v4 = (-1 : Int32) then (f5_hasVetoedDish_L2 S fu (x1_2 + 1) k) else (bd (f5_isVetoed S (x1_2 / (3 : Int32)) v4) (fun r6 => (if r6 = 0 then (f5_hasVetoedDish_L2 S fu (x1_2 + 1) k) else (1 : Int32))))))))

def f5_hasVetoedDish (S : Pic) : Int32 := (f5_hasVetoedDish_L2 S 84 (0 : Int32) (0 : Int32))
def f5_hasStrangeDish_L2 (S : Pic) : Nat → Int32 → (Int32) → Int32
  | 0, x1_2, k => (k)
  | fu + 1, x1_2, k => (if (84 : Int32) ≤ x1_2 then (k) else (bd (f6_at 84 (S 11) x1_2) (fun v4 => (if v4 = (-1 : Int32) then (f5_hasStrangeDish_L2 S fu (x1_2 + 1) k) else (if (f5_hasDish S v4) = 0 then (1 : Int32) else (if (f6_at 12 (S 1) v4) = (x1_2 - x1_2 / (3 : Int32) * (3 : Int32)) then (f5_hasStrangeDish_L2 S fu (x1_2 + 1) k) else (1 : Int32)))))))

def f5_hasStrangeDish (S : Pic) : Int32 := (f5_hasStrangeDish_L2 S 84 (0 : Int32) (0 : Int32))

def f6_copyRow (n : Nat) (n1 : Nat) (f : (Nat → Int32)) (f1 : (Nat → Int32)) : (Nat → Int32) := (bd (va_cpy f f1 (ix (0 : Int32)) (ix (0 : Int32)) (ix (if (nI n1) < (nI n) then (nI n1) else (nI n)))) (fun f1b1 => f1b1))

def f5_newDish (S : Pic) (p1 : Int32) (p2 : Int32) (p3 : Int32) (p4 : Int32) : Int32 × Pic := (bd ((S 0) 0) (fun v1 => (bd (pset S 1 (f6_put 12 (S 1) v1 p1)) (fun Sb3 => (bd (pset Sb3 2 (f6_put 12 (Sb3 2) v1 p2)) (fun Sb5 => (bd (pset Sb5 3 (f6_put 12 (Sb5 3) v1 p3)) (fun Sb7 => (bd (pset Sb7 4 (f6_put 12 (Sb7 4) v1 p4)) (fun Sb9 => (bd (pset Sb9 5 (f6_put 12 (Sb9 5) v1 (-1 : Int32))) (fun Sb11 => (bd (pset Sb11 6 (f6_put 12 (Sb11 6) v1 (0 : Int32))) (fun Sb13 => (bd (pset Sb13 0 (fun _ => (((Sb13 0) 0) + (1 : Int32)))) (fun Sb14 => (v1, Sb14)))))))))))))))))

def f5_newGuest (S : Pic) : Int32 × Pic := (bd ((S 7) 0) (fun v1 => (bd (pset S 8 (f6_put 6 (S 8) v1 (127 : Int32))) (fun Sb3 => (bd (pset Sb3 9 (f6_put 6 (Sb3 9) v1 (0 : Int32))) (fun Sb5 => (bd (pset Sb5 7 (fun _ => (((Sb5 7) 0) + (1 : Int32)))) (fun Sb6 => (v1, Sb6)))))))))
def f5_exchangeMeals_L2 (p1 : Int32) (p2 : Int32) : Nat → Int32 → Pic → (Pic → Pic) → Pic
  | 0, x3_2, S_2, k => (k S_2)
  | fu + 1, x3_2, S_2, k => (if (3 : Int32) ≤ x3_2 then (k S_2) else (bd (f6_at 84 (S_2 11) (f6_cellOf p1 x3_2)) (fun v5 => (bd (pset S_2 11 (f6_put 84 (S_2 11) (f6_cellOf p1 x3_2) (f6_at 84 (S_2 11) (f6_cellOf p2 x3_2)))) (fun Sb10 => (bd (pset Sb10 11 (f6_put 84 (Sb10 11) (f6_cellOf p2 x3_2) v5)) (fun Sb13 => (f5_exchangeMeals_L2 p1 p2 fu (x3_2 + 1) Sb13 k))))))))

def f5_exchangeMeals (S : Pic) (p1 : Int32) (p2 : Int32) : Pic := (f5_exchangeMeals_L2 p1 p2 3 (0 : Int32) S (fun S_2 => S_2))

def f5_copyFrom (S : Pic) (S1 : Pic) : Pic := (bd (pset S 0 (fun _ => ((S1 0) 0))) (fun Sb1 => (bd (pset Sb1 1 (f6_copyRow 12 12 (S1 1) (Sb1 1))) (fun Sb3 => (bd (pset Sb3 2 (f6_copyRow 12 12 (S1 2) (Sb3 2))) (fun Sb5 => (bd (pset Sb5 3 (f6_copyRow 12 12 (S1 3) (Sb5 3))) (fun Sb7 => (bd (pset Sb7 4 (f6_copyRow 12 12 (S1 4) (Sb7 4))) (fun Sb9 => (bd (pset Sb9 5 (f6_copyRow 12 12 (S1 5) (Sb9 5))) (fun Sb11 => (bd (pset Sb11 6 (f6_copyRow 12 12 (S1 6) (Sb11 6))) (fun Sb13 => (bd (pset Sb13 7 (fun _ => ((S1 7) 0))) (fun Sb14 => (bd (pset Sb14 8 (f6_copyRow 6 6 (S1 8) (Sb14 8))) (fun Sb16 => (bd (pset Sb16 9 (f6_copyRow 6 6 (S1 9) (Sb16 9))) (fun Sb18 => (bd (pset Sb18 10 (f6_copyRow 3 3 (S1 10) (Sb18 10))) (fun Sb20 => (bd (pset Sb20 11 (f6_copyRow 84 84 (S1 11) (Sb20 11))) (fun Sb22 => Sb22))))))))))))))))))))))))
def fJ7_fill_53178 (n : Nat) (f : Nat → Int32) (v : Int32) : Nat → Int32 := fun k => if k < n then v else f k

def f1_forget (Y : Pic) : Pic := (bd (pset Y 0 (fJ7_fill_53178 84 (Y 0) (-1 : Int32))) (fun Yb2 => (bd (pset Yb2 1 (fJ7_fill_53178 84 (Yb2 1) (0 : Int32))) (fun Yb4 => Yb4))))
def f1_nextSource_L31 (Y : Pic) (S : Pic) (p2 : Int32) (p3 : Int32) (v4 : Int32) : Nat → Int32 → Int32 → Int32 → (Int32 → Int32) → Int32
  | 0, x4_31, x5_31, x8_31, k => (k x4_31)
  | fu + 1, x4_31, x5_31, x8_31, k => (if v4 ≤ x8_31 then (k x4_31) else (bd (f6_at 84 (S 11) x8_31) (fun v8 => (if (f6_at 12 (S 5) v8) = p2 then (if (f6_at 84 (Y 1) x8_31) = 0 then (bd ((x8_31 / (3 : Int32)) + (f6_at 12 (S 6) v8)) (fun v14 => (if v14 < p3 then (f1_nextSource_L31 Y S p2 p3 v4 fu x4_31 x5_31 (x8_31 + 1) k) else (if x4_31 = (-1 : Int32) then (f1_nextSource_L31 Y S p2 p3 v4 fu x8_31 v14 (x8_31 + 1) k) else (if x5_31 ≤ v14 then (f1_nextSource_L31 Y S p2 p3 v4 fu x4_31 x5_31 (x8_31 + 1) k) else (f1_nextSource_L31 Y S p2 p3 v4 fu x8_31 v14 (x8_31 + 1) k)))))) else (f1_nextSource_L31 Y S p2 p3 v4 fu x4_31 x5_31 (x8_31 + 1) k)) else (f1_nextSource_L31 Y S p2 p3 v4 fu x4_31 x5_31 (x8_31 + 1) k)))))

def f1_nextSource (Y : Pic) (S : Pic) (p2 : Int32) (p3 : Int32) : Int32 := (bd (f6_cellOf (if (0 : Int32) < (p3 - (6 : Int32)) then (p3 - (6 : Int32)) else (0 : Int32)) (0 : Int32)) (fun v2 => (bd (f6_cellOf p3 (0 : Int32)) (fun v4 => (f1_nextSource_L31 Y S p2 p3 v4 (fuelN v2 v4) (-1 : Int32) (0 : Int32) v2 (fun x4_31 => x4_31))))))
def f1_pairServings_L15 (S : Pic) (p2 : Int32) (v2 : Int32) : Nat → Int32 → Int32 → Pic → (Int32 → Pic → (Int32 × Pic)) → Int32 × Pic
  | 0, x4_15, x5_15, Y_15, k => (k x4_15 Y_15)
  | fu + 1, x4_15, x5_15, Y_15, k => (if (28 : Int32) ≤ x5_15 then (k x4_15 Y_15) else (bd (f6_cellOf x5_15 v2) (fun v6 => (if (f6_at 84 (S 11) v6) = p2 then (bd (f1_nextSource Y_15 S p2 x5_15) (fun r9 => (bd (pset Y_15 0 (f6_put 84 (Y_15 0) v6 r9)) (fun Yb11 => (bd (pset Yb11 1 (f6_put 84 (Yb11 1) r9 (1 : Int32))) (fun Yb13 => (if x4_15 = 0 then (f1_pairServings_L15 S p2 v2 fu (0 : Int32) (x5_15 + 1) Yb13 k) else (if r9 = (-1 : Int32) then (f1_pairServings_L15 S p2 v2 fu (0 : Int32) (x5_15 + 1) Yb13 k) else (f1_pairServings_L15 S p2 v2 fu (1 : Int32) (x5_15 + 1) Yb13 k))))))))) else (f1_pairServings_L15 S p2 v2 fu x4_15 (x5_15 + 1) Y_15 k)))))

def f1_pairServings (Y : Pic) (S : Pic) (p2 : Int32) : Int32 × Pic := (bd (f6_at 12 (S 1) p2) (fun v2 => (f1_pairServings_L15 S p2 v2 28 (1 : Int32) (0 : Int32) Y (fun x4_15 Y_15 => (x4_15, Y_15)))))
def f1_pairAll_L8 (S : Pic) : Nat → Int32 → Int32 → Pic → (Int32 → Pic → (Int32 × Pic)) → Int32 × Pic
  | 0, x2_8, x3_8, Y_8, k => (k x2_8 Y_8)
  | fu + 1, x2_8, x3_8, Y_8, k => (if ((S 0) 0) ≤ x3_8 then (k x2_8 Y_8) else (bd (f5_isLeftover S x3_8) (fun r4 => (if r4 = 0 then (f1_pairAll_L8 S fu x2_8 (x3_8 + 1) Y_8 k) else (bd2 (f1_pairServings Y_8 S x3_8) (fun r7 u8 => (if r7 = 0 then (f1_pairAll_L8 S fu (0 : Int32) (x3_8 + 1) u8 k) else (f1_pairAll_L8 S fu x2_8 (x3_8 + 1) u8 k))))))))

def f1_pairAll (Y : Pic) (S : Pic) : Int32 × Pic := (bd (f1_forget Y) (fun u1 => (f1_pairAll_L8 S (fuelN (0 : Int32) ((S 0) 0)) (1 : Int32) (0 : Int32) u1 (fun x2_8 Y_8 => (x2_8, Y_8)))))

def f1_areSound (Y : Pic) (S : Pic) : Int32 × Pic := (bd2 (f1_pairAll Y S) (fun r1 u2 => (r1, u2)))

def f1_staySoundWith (Y : Pic) (S : Pic) (p2 : Int32) (p3 : Int32) : Int32 × Pic × Pic := (bd (f5_isLeftover S p3) (fun r1 => (if r1 = 0 then ((1 : Int32), Y, S) else (bd (f1_forget Y) (fun u4 => (bd (pset S 11 (f6_put 84 (S 11) p2 p3)) (fun Sb6 => (bd2 (f1_pairServings u4 Sb6 p3) (fun r7 u8 => (bd (pset Sb6 11 (f6_put 84 (Sb6 11) p2 (-1 : Int32))) (fun Sb11 => (r7, u8, Sb11))))))))))))

def f1_sourceDay (Y : Pic) (S : Pic) (p2 : Int32) : Int32 × Pic := (bd (f6_at 84 (S 11) p2) (fun v2 => (bd (f1_forget Y) (fun u3 => (if v2 = (-1 : Int32) then (bd (f6_at 84 (u3 0) p2) (fun v6 => (if v6 = (-1 : Int32) then ((-1 : Int32), u3) else ((v6 / (3 : Int32)), u3)))) else (bd (f5_isLeftover S v2) (fun r8 => (if r8 = 0 then (bd (f6_at 84 (u3 0) p2) (fun v12 => (if v12 = (-1 : Int32) then ((-1 : Int32), u3) else ((v12 / (3 : Int32)), u3)))) else (bd2 (f1_pairServings u3 S v2) (fun r14 u15 => (bd (f6_at 84 (u15 0) p2) (fun v18 => (if v18 = (-1 : Int32) then ((-1 : Int32), u15) else ((v18 / (3 : Int32)), u15))))))))))))))
def f1_wastedServings_L19 (Y : Pic) (S : Pic) (p2 : Int32) : Nat → Int32 → Int32 → (Int32 → Int32) → Int32
  | 0, x3_19, x4_19, k => (k x3_19)
  | fu + 1, x3_19, x4_19, k => (if (84 : Int32) ≤ x4_19 then (k x3_19) else (if (f6_at 84 (S 11) x4_19) = p2 then (if (f6_at 84 (Y 1) x4_19) = 0 then (f1_wastedServings_L19 Y S p2 fu (x3_19 + 1) (x4_19 + 1) k) else (f1_wastedServings_L19 Y S p2 fu x3_19 (x4_19 + 1) k)) else (f1_wastedServings_L19 Y S p2 fu x3_19 (x4_19 + 1) k)))

def f1_wastedServings (Y : Pic) (S : Pic) (p2 : Int32) : Int32 := (if (f6_at 12 (S 5) p2) = (-1 : Int32) then (0 : Int32) else (f1_wastedServings_L19 Y S p2 84 (0 : Int32) (0 : Int32) (fun x3_19 => x3_19)))

def f1_wastedOf (Y : Pic) (S : Pic) (p2 : Int32) : Int32 × Pic := (bd2 (f1_pairAll Y S) (fun r1 u2 => (bd (f1_wastedServings u2 S p2) (fun r4 => (r4, u2)))))
def f1_wastedOfAll_L10 (S : Pic) : Nat → Int32 → Int32 → Pic → (Int32 → Pic → (Int32 × Pic)) → Int32 × Pic
  | 0, x2_10, x3_10, Y_10, k => (k x2_10 Y_10)
  | fu + 1, x2_10, x3_10, Y_10, k => (if ((S 0) 0) ≤ x3_10 then (k x2_10 Y_10) else (bd (f1_wastedServings Y_10 S x3_10) (fun r6 => (bd (x2_10 + r6) (fun v7 => (f1_wastedOfAll_L10 S fu v7 (x3_10 + 1) Y_10 k))))))

def f1_wastedOfAll (Y : Pic) (S : Pic) : Int32 × Pic := (bd2 (f1_pairAll Y S) (fun r1 u2 => (f1_wastedOfAll_L10 S (fuelN (0 : Int32) ((S 0) 0)) (0 : Int32) (0 : Int32) u2 (fun x2_10 Y_10 => (x2_10, Y_10)))))
def f2_sameTasteBefore_L49 (S : Pic) (v2 : Int32) (v7 : Int32) : Nat → Int32 → Int32 → (Int32 → Int32) → Int32
  | 0, x6_49, x7_49, k => (k x6_49)
  | fu + 1, x6_49, x7_49, k => (if v7 ≤ x7_49 then (k x6_49) else (bd (f6_at 84 (S 11) x7_49) (fun v11 => (if v11 = (-1 : Int32) then (f2_sameTasteBefore_L49 S v2 v7 fu x6_49 (x7_49 + 1) k) else (if (f6_at 12 (S 3) v11) = v2 then (f2_sameTasteBefore_L49 S v2 v7 fu (x6_49 + 1) (x7_49 + 1) k) else (f2_sameTasteBefore_L49 S v2 v7 fu x6_49 (x7_49 + 1) k))))))

def f2_sameTasteBefore (S : Pic) (p1 : Int32) (p2 : Int32) : Int32 := (bd (f6_at 12 (S 3) p2) (fun v2 => (bd (f6_cellOf (if (0 : Int32) < (p1 - (f6_at 3 (S 10) (1 : Int32))) then (p1 - (f6_at 3 (S 10) (1 : Int32))) else (0 : Int32)) (0 : Int32)) (fun v5 => (bd (f6_cellOf p1 (0 : Int32)) (fun v7 => (f2_sameTasteBefore_L49 S v2 v7 (fuelN v5 v7) (0 : Int32) v5 (fun x6_49 => x6_49))))))))

def f2_joyLeft (S : Pic) (p1 : Int32) (p2 : Int32) : Int32 := (if (0 : Int32) < ((f6_at 12 (S 4) p1) - ((f6_at 3 (S 10) (0 : Int32)) * p2)) then ((f6_at 12 (S 4) p1) - ((f6_at 3 (S 10) (0 : Int32)) * p2)) else (0 : Int32))

def f2_joyOfDish (S : Pic) (p1 : Int32) (p2 : Int32) : Int32 := (bd (f2_sameTasteBefore S p1 p2) (fun r1 => (bd (f2_joyLeft S p2 r1) (fun r2 => r2))))
def f2_joyOfMeal_L4 (S : Pic) (p1 : Int32) : Nat → Int32 → Int32 → (Int32 → Int32) → Int32
  | 0, x2_4, x3_4, k => (k x2_4)
  | fu + 1, x2_4, x3_4, k => (if (3 : Int32) ≤ x3_4 then (k x2_4) else (bd (f6_at 84 (S 11) (f6_cellOf p1 x3_4)) (fun v5 => (if v5 = (-1 : Int32) then (f2_joyOfMeal_L4 S p1 fu x2_4 (x3_4 + 1) k) else (bd (f2_joyOfDish S p1 v5) (fun r7 => (bd (x2_4 + r7) (fun v8 => (f2_joyOfMeal_L4 S p1 fu v8 (x3_4 + 1) k)))))))))

def f2_joyOfMeal (S : Pic) (p1 : Int32) : Int32 := (f2_joyOfMeal_L4 S p1 3 (0 : Int32) (0 : Int32) (fun x2_4 => x2_4))
def f2_joyOfPlan_L4 (S : Pic) : Nat → Int32 → Int32 → (Int32 → Int32) → Int32
  | 0, x1_4, x2_4, k => (k x1_4)
  | fu + 1, x1_4, x2_4, k => (if (28 : Int32) ≤ x2_4 then (k x1_4) else (bd (f2_joyOfMeal S x2_4) (fun r3 => (bd (x1_4 + r3) (fun v4 => (f2_joyOfPlan_L4 S fu v4 (x2_4 + 1) k))))))

def f2_joyOfPlan (S : Pic) : Int32 := (f2_joyOfPlan_L4 S 28 (0 : Int32) (0 : Int32) (fun x1_4 => x1_4))

def f2_isBetter (S : Pic) (p1 : Int32) (p2 : Int32) (p3 : Int32) : Int32 := (bd (f2_joyOfDish S p1 p2) (fun r1 => (bd (f2_joyOfDish S p1 p3) (fun r2 => (bd (r1 - r2) (fun v3 => (if 0 < v3 then (1 : Int32) else (if v3 = 0 then (if (f6_at 12 (S 2) p3) ≤ (f6_at 12 (S 2) p2) then (0 : Int32) else (1 : Int32)) else (0 : Int32)))))))))

def f2_reasonAgainst (Y : Pic) (S : Pic) (p1 : Int32) (p2 : Int32) (p3 : Int32) : Int32 × Pic × Pic := (bd (f6_cellOf p1 p2) (fun v2 => (if (f6_at 84 (S 11) v2) = (-1 : Int32) then (if (f6_at 12 (S 1) p3) = p2 then (bd (f5_isVetoed S p1 p3) (fun r7 => (if r7 = 0 then (bd (f5_weekCost S (p1 / (7 : Int32))) (fun r10 => (if (r10 + (f6_at 12 (S 2) p3)) ≤ (f6_at 3 (S 10) (2 : Int32)) then (bd3 (f1_staySoundWith Y S v2 p3) (fun r14 u15 u16 => (if r14 = 0 then ((5 : Int32), u15, u16) else ((0 : Int32), u15, u16)))) else ((4 : Int32), Y, S)))) else ((3 : Int32), Y, S)))) else ((2 : Int32), Y, S)) else ((1 : Int32), Y, S))))
def f2_bestDish_L5 (p1 : Int32) (p2 : Int32) : Nat → Int32 → Int32 → Pic → Pic → (Int32 → Pic → Pic → (Option (Int32 × Pic × Pic))) → Option (Int32 × Pic × Pic)
  | 0, x3_5, x4_5, Y_5, S_5, k => none
  | fu + 1, x3_5, x4_5, Y_5, S_5, k => (if ((S_5 0) 0) ≤ x4_5 then (k x3_5 Y_5 S_5) else (bd3 (f2_reasonAgainst Y_5 S_5 p1 p2 x4_5) (fun r2 u3 u4 => (if r2 = 0 then (if x3_5 = (-1 : Int32) then (f2_bestDish_L5 p1 p2 fu x4_5 (x4_5 + 1) u3 u4 k) else (bd (f2_isBetter u4 p1 x4_5 x3_5) (fun r7 => (if r7 = 0 then (f2_bestDish_L5 p1 p2 fu x3_5 (x4_5 + 1) u3 u4 k) else (f2_bestDish_L5 p1 p2 fu x4_5 (x4_5 + 1) u3 u4 k))))) else (f2_bestDish_L5 p1 p2 fu x3_5 (x4_5 + 1) u3 u4 k)))))

def f2_bestDish (Y : Pic) (S : Pic) (p1 : Int32) (p2 : Int32) : Option (Int32 × Pic × Pic) := (f2_bestDish_L5 p1 p2 13 (-1 : Int32) (0 : Int32) Y S (fun x3_5 Y_5 S_5 => (some (x3_5, Y_5, S_5))))
def f2_growth_L59 (S : Pic) (v3 : Int32) (v8 : Int32) : Nat → Int32 → Int32 → (Int32 → Int32) → Int32
  | 0, x3_59, x7_59, k => (k x3_59)
  | fu + 1, x3_59, x7_59, k => (if v8 ≤ x7_59 then (k x3_59) else (bd (f6_at 84 (S 11) x7_59) (fun v12 => (if v12 = (-1 : Int32) then (f2_growth_L59 S v3 v8 fu x3_59 (x7_59 + 1) k) else (if (f6_at 12 (S 3) v12) = v3 then (bd (f2_sameTasteBefore S (x7_59 / (3 : Int32)) v12) (fun r16 => (bd (f2_joyLeft S v12 (r16 + (1 : Int32))) (fun r17 => (bd (f2_joyLeft S v12 r16) (fun r18 => (bd (x3_59 + (r17 - r18)) (fun v19 => (f2_growth_L59 S v3 v8 fu v19 (x7_59 + 1) k))))))))) else (f2_growth_L59 S v3 v8 fu x3_59 (x7_59 + 1) k))))))

def f2_growth (S : Pic) (p1 : Int32) (p2 : Int32) : Int32 := (bd (f2_joyOfDish S p1 p2) (fun r1 => (bd (f6_at 12 (S 3) p2) (fun v3 => (bd (f6_cellOf (p1 + (1 : Int32)) (0 : Int32)) (fun v5 => (bd (f6_cellOf (if ((p1 + (f6_at 3 (S 10) (1 : Int32))) + (1 : Int32)) < (28 : Int32) then ((p1 + (f6_at 3 (S 10) (1 : Int32))) + (1 : Int32)) else (28 : Int32)) (0 : Int32)) (fun v8 => (f2_growth_L59 S v3 v8 (fuelN v5 v8) r1 v5 (fun x3_59 => x3_59))))))))))
def f2_bestDayOf_L20 (p1 : Int32) (v2 : Int32) : Nat → Int32 → Int32 → Int32 → Pic → Pic → (Int32 → Pic → Pic → (Int32 × Pic × Pic)) → Int32 × Pic × Pic
  | 0, x3_20, x4_20, x5_20, Y_20, S_20, k => (k x3_20 Y_20 S_20)
  | fu + 1, x3_20, x4_20, x5_20, Y_20, S_20, k => (if (28 : Int32) ≤ x5_20 then (k x3_20 Y_20 S_20) else (bd3 (f2_reasonAgainst Y_20 S_20 x5_20 v2 p1) (fun r5 u6 u7 => (if r5 = 0 then (bd (f2_growth u7 x5_20 p1) (fun r9 => (if x3_20 = (-1 : Int32) then (f2_bestDayOf_L20 p1 v2 fu x5_20 r9 (x5_20 + 1) u6 u7 k) else (if r9 ≤ x4_20 then (f2_bestDayOf_L20 p1 v2 fu x3_20 x4_20 (x5_20 + 1) u6 u7 k) else (f2_bestDayOf_L20 p1 v2 fu x5_20 r9 (x5_20 + 1) u6 u7 k))))) else (f2_bestDayOf_L20 p1 v2 fu x3_20 x4_20 (x5_20 + 1) u6 u7 k)))))

def f2_bestDayOf (Y : Pic) (S : Pic) (p1 : Int32) : Int32 × Pic × Pic := (bd (f6_at 12 (S 1) p1) (fun v2 => (f2_bestDayOf_L20 p1 v2 28 (-1 : Int32) (0 : Int32) (0 : Int32) Y S (fun x3_20 Y_20 S_20 => (x3_20, Y_20, S_20)))))

def f3_placeAfterDay (p1 : Int32) : Int32 := (if p1 = (61 : Int32) then (5 : Int32) else (-1 : Int32))

def f3_placeAfterFirstDigit (p1 : Int32) : Int32 := (if p1 = (49 : Int32) then (2 : Int32) else (if p1 = (50 : Int32) then (3 : Int32) else (if (f6_isWithin p1 (48 : Int32) (57 : Int32)) = 0 then (-1 : Int32) else (4 : Int32))))

def f3_placeAfter (p1 : Int32) (p2 : Int32) : Int32 := (if p1 = 0 then (if p2 = (100 : Int32) then (1 : Int32) else (-1 : Int32)) else (if p1 = 1 then (bd (f3_placeAfterFirstDigit p2) (fun r4 => r4)) else (if p1 = 2 then (if (f6_isWithin p2 (48 : Int32) (57 : Int32)) = 0 then (bd (f3_placeAfterDay p2) (fun r9 => r9)) else (4 : Int32)) else (if p1 = 3 then (if (f6_isWithin p2 (48 : Int32) (55 : Int32)) = 0 then (bd (f3_placeAfterDay p2) (fun r14 => r14)) else (4 : Int32)) else (if p1 = 4 then (bd (f3_placeAfterDay p2) (fun r16 => r16)) else (if p1 = 5 then (if (f6_isWithin p2 (97 : Int32) (108 : Int32)) = 0 then (-1 : Int32) else (6 : Int32)) else (if p1 = 6 then (if p2 = (59 : Int32) then (0 : Int32) else (-1 : Int32)) else (-1 : Int32))))))))

def f3_addCode (T : Pic) (p1 : Int32) : Pic := (bd (pset T 0 (f6_put 60 (T 0) ((T 1) 0) p1)) (fun Tb2 => (bd (pset Tb2 1 (fun _ => (((Tb2 1) 0) + (1 : Int32)))) (fun Tb3 => Tb3))))

def f3_makeEmpty (T : Pic) : Pic := (pset T 1 (fun _ => (0 : Int32)))
def f3_errorIndex_L4 (T : Pic) : Nat → Int32 → Int32 → (Int32) → Int32
  | 0, x1_4, x2_4, k => (k)
  | fu + 1, x1_4, x2_4, k => (if ((T 1) 0) ≤ x2_4 then (k) else (bd (f3_placeAfter x1_4 (f6_at 60 (T 0) x2_4)) (fun r4 => (if r4 = (-1 : Int32) then x2_4 else (f3_errorIndex_L4 T fu r4 (x2_4 + 1) k)))))

def f3_errorIndex (T : Pic) : Int32 := (f3_errorIndex_L4 T (fuelN (0 : Int32) ((T 1) 0)) (0 : Int32) (0 : Int32) ((T 1) 0))

def f3_isComplete (T : Pic) : Int32 := (bd (f3_errorIndex T) (fun r1 => (if r1 = ((T 1) 0) then (if (f6_at 60 (T 0) (((T 1) 0) - (2 : Int32))) = (61 : Int32) then (1 : Int32) else (0 : Int32)) else (0 : Int32))))
def f3_entryCount_L4 (T : Pic) : Nat → Int32 → Int32 → (Int32 → Int32) → Int32
  | 0, x1_4, x2_4, k => (k x1_4)
  | fu + 1, x1_4, x2_4, k => (if ((T 1) 0) ≤ x2_4 then (k x1_4) else (if (f6_at 60 (T 0) x2_4) = (59 : Int32) then (f3_entryCount_L4 T fu (x1_4 + 1) (x2_4 + 1) k) else (f3_entryCount_L4 T fu x1_4 (x2_4 + 1) k)))

def f3_entryCount (T : Pic) : Int32 := (f3_entryCount_L4 T (fuelN (0 : Int32) ((T 1) 0)) (1 : Int32) (0 : Int32) (fun x1_4 => x1_4))
def f3_startOf_L7 (T : Pic) (p1 : Int32) : Nat → Int32 → Int32 → Int32 → (Int32 → Int32) → Int32
  | 0, x2_7, x3_7, x4_7, k => (k x2_7)
  | fu + 1, x2_7, x3_7, x4_7, k => (if ((T 1) 0) ≤ x4_7 then (k x2_7) else (if p1 ≤ x3_7 then (k x2_7) else (if (f6_at 60 (T 0) x4_7) = (59 : Int32) then (bd (x4_7 + (1 : Int32)) (fun v6 => (f3_startOf_L7 T p1 fu v6 (x3_7 + 1) (x4_7 + 1) k))) else (f3_startOf_L7 T p1 fu x2_7 x3_7 (x4_7 + 1) k))))

def f3_startOf (T : Pic) (p1 : Int32) : Int32 := (f3_startOf_L7 T p1 (fuelN (0 : Int32) ((T 1) 0)) (0 : Int32) (0 : Int32) (0 : Int32) (fun x2_7 => x2_7))
def f3_dayFrom_L6 (T : Pic) : Nat → Int32 → Int32 → (Int32 → Int32) → Int32
  | 0, x2_6, x3_6, k => (k x2_6)
  | fu + 1, x2_6, x3_6, k => (if ((T 1) 0) ≤ x3_6 then (k x2_6) else (if (f6_at 60 (T 0) x3_6) = (61 : Int32) then (k x2_6) else (bd (((x2_6 * (10 : Int32)) + (f6_at 60 (T 0) x3_6)) - (48 : Int32)) (fun v7 => (f3_dayFrom_L6 T fu v7 (x3_6 + 1) k)))))

def f3_dayFrom (T : Pic) (p1 : Int32) : Int32 := (bd (p1 + (1 : Int32)) (fun v1 => (f3_dayFrom_L6 T (fuelN v1 ((T 1) 0)) (0 : Int32) v1 (fun x2_6 => x2_6))))
def f3_dishFrom_L2 (T : Pic) : Nat → Int32 → (Int32) → Int32
  | 0, x2_2, k => (k)
  | fu + 1, x2_2, k => (if ((T 1) 0) ≤ x2_2 then (k) else (if (f6_at 60 (T 0) x2_2) = (61 : Int32) then ((f6_at 60 (T 0) (x2_2 + (1 : Int32))) - (97 : Int32)) else (f3_dishFrom_L2 T fu (x2_2 + 1) k)))

def f3_dishFrom (T : Pic) (p1 : Int32) : Int32 := (f3_dishFrom_L2 T (fuelN p1 ((T 1) 0)) p1 (-1 : Int32))

def f7_within (p1 : Int32) (p2 : Int32) (p3 : Int32) : Int32 := (if p1 < p2 then (0 : Int32) else (if p3 < p1 then (0 : Int32) else (1 : Int32)))

def f7_has (p1 : Int32) (p2 : Int32) : Int32 := (if ((p1 >>> (p2 &&& 31)) &&& (1 : Int32)) = (1 : Int32) then (1 : Int32) else (0 : Int32))

def f7_isDay (p1 : Int32) : Int32 := (f7_within p1 (0 : Int32) (27 : Int32))

def f7_isPart (p1 : Int32) : Int32 := (f7_within p1 (0 : Int32) (2 : Int32))

def f7_isSetting (p1 : Int32) : Int32 := (f7_within p1 (0 : Int32) (2 : Int32))

def f7_isValue (p1 : Int32) (p2 : Int32) : Int32 := (if p1 = 0 then (f7_within p2 (0 : Int32) (9 : Int32)) else (if p1 = (1 : Int32) then (f7_within p2 (1 : Int32) (10 : Int32)) else (f7_within p2 (0 : Int32) (999 : Int32))))

def f7_isSnapshot (p1 : Int32) : Int32 := (f7_within p1 (0 : Int32) (1 : Int32))

def f7_many (p1 : Int32) : Int32 := (if p1 = (-1 : Int32) then (0 : Int32) else (1 : Int32))

def f7_thrown (M : Pic) : Int32 := ((M 7) 0)

def f7_isDish (M : Pic) (p1 : Int32) : Int32 := (f7_within p1 (0 : Int32) (((M 0) (ix (3 : Int32))) - (1 : Int32)))

def f7_isGuest (M : Pic) (p1 : Int32) : Int32 := (f7_within p1 (0 : Int32) (((M 0) (ix (4 : Int32))) - (1 : Int32)))

def f7_of (M : Pic) (p1 : Int32) (p2 : Int32) : Option (Int32) := (ck (((5 : Int32) + ((6 : Int32) * p1)) + p2) 173 (some ((M 0) (ix (((5 : Int32) + ((6 : Int32) * p1)) + p2)))))

def f7_ofGuest (M : Pic) (p1 : Int32) (p2 : Int32) : Option (Int32) := (ck (((77 : Int32) + ((2 : Int32) * p1)) + p2) 173 (some ((M 0) (ix (((77 : Int32) + ((2 : Int32) * p1)) + p2)))))

def f7_at (M : Pic) (p1 : Int32) (p2 : Int32) : Option (Int32) := (ck (((89 : Int32) + ((3 : Int32) * p1)) + p2) 173 (some ((M 0) (ix (((89 : Int32) + ((3 : Int32) * p1)) + p2)))))
def f7_isLeftover_L4 (M : Pic) (p1 : Int32) : Nat → Int32 → Int32 → (Int32 → (Option (Int32))) → Option (Int32)
  | 0, x2_4, x3_4, k => (k x2_4)
  | fu + 1, x2_4, x3_4, k => (if ((M 0) (ix (3 : Int32))) ≤ x3_4 then (k x2_4) else (if x2_4 = 0 then (ob1 (f7_of M x3_4 (4 : Int32)) (fun r4 => (if r4 = p1 then (f7_isLeftover_L4 M p1 fu (1 : Int32) (x3_4 + 1) k) else (f7_isLeftover_L4 M p1 fu (0 : Int32) (x3_4 + 1) k)))) else (f7_isLeftover_L4 M p1 fu (1 : Int32) (x3_4 + 1) k)))

def f7_isLeftover (M : Pic) (p1 : Int32) : Option (Int32) := (f7_isLeftover_L4 M p1 (fuelN (0 : Int32) ((M 0) (ix (3 : Int32)))) (0 : Int32) (0 : Int32) (fun x2_4 => (some x2_4)))

def f7_isSource (M : Pic) (p1 : Int32) : Option (Int32) := (ck ((89 : Int32) + p1) 173 (if ((M 0) (ix ((89 : Int32) + p1))) = (-1 : Int32) then (some (0 : Int32)) else (ck ((89 : Int32) + p1) 173 (ob1 (f7_of M ((M 0) (ix ((89 : Int32) + p1))) (4 : Int32)) (fun r4 => (if r4 = (-1 : Int32) then (some (0 : Int32)) else (some (1 : Int32))))))))

def f7_lastDay (M : Pic) (p1 : Int32) : Option (Int32) := (ck ((89 : Int32) + p1) 173 (ob1 (f7_of M ((M 0) (ix ((89 : Int32) + p1))) (5 : Int32)) (fun r2 => (some ((p1 / (3 : Int32)) + r2)))))

def f7_isThere (M : Pic) (p1 : Int32) (p2 : Int32) (p3 : Int32) : Option (Int32) := (ob1 (f7_isSource M p1) (fun r1 => (if r1 = 0 then (some (0 : Int32)) else (ck p1 84 (if ((M 9) (ix p1)) = 0 then (ck ((89 : Int32) + p1) 173 (ob1 (f7_of M ((M 0) (ix ((89 : Int32) + p1))) (4 : Int32)) (fun r8 => (if r8 = p2 then (if p3 ≤ (p1 / (3 : Int32)) then (some (0 : Int32)) else (ob1 (f7_lastDay M p1) (fun r12 => (if r12 < p3 then (some (0 : Int32)) else (some (1 : Int32)))))) else (some (0 : Int32)))))) else (some (0 : Int32)))))))
def f7_sourceFor_L5 (M : Pic) (p1 : Int32) (p2 : Int32) : Nat → Int32 → Int32 → (Int32 → (Option (Int32))) → Option (Int32)
  | 0, x3_5, x4_5, k => (k x3_5)
  | fu + 1, x3_5, x4_5, k => (if ((3 : Int32) * p2) ≤ x4_5 then (k x3_5) else (ob1 (f7_isThere M x4_5 p1 p2) (fun r3 => (if r3 = 0 then (f7_sourceFor_L5 M p1 p2 fu x3_5 (x4_5 + 1) k) else (if x3_5 = (-1 : Int32) then (f7_sourceFor_L5 M p1 p2 fu x4_5 (x4_5 + 1) k) else (ob1 (f7_lastDay M x4_5) (fun r8 => (ob1 (f7_lastDay M x3_5) (fun r10 => (if r10 ≤ r8 then (f7_sourceFor_L5 M p1 p2 fu x3_5 (x4_5 + 1) k) else (f7_sourceFor_L5 M p1 p2 fu x4_5 (x4_5 + 1) k)))))))))))

def f7_sourceFor (M : Pic) (p1 : Int32) (p2 : Int32) : Option (Int32) := (f7_sourceFor_L5 M p1 p2 (fuelN (0 : Int32) ((3 : Int32) * p2)) (-1 : Int32) (0 : Int32) (fun x3_5 => (some x3_5)))
def f7_match_L2  : Nat → Int32 → Pic → (Pic → (Option (Int32 × Pic))) → Option (Int32 × Pic)
  | 0, x1_2, M_2, k => (k M_2)
  | fu + 1, x1_2, M_2, k => (if (84 : Int32) ≤ x1_2 then (k M_2) else (ck x1_2 84 (bd (pset M_2 8 (upd (M_2 8) (ix x1_2) (-1 : Int32))) (fun Mb4 => (ck x1_2 84 (bd (pset Mb4 9 (upd (Mb4 9) (ix x1_2) (0 : Int32))) (fun Mb6 => (f7_match_L2  fu (x1_2 + 1) Mb6 k))))))))

def f7_match_L32  : Nat → Int32 → Int32 → Pic → (Int32 → Pic → (Option (Int32 × Pic))) → Option (Int32 × Pic)
  | 0, x1_32, x2_32, M_32, k => (k x1_32 M_32)
  | fu + 1, x1_32, x2_32, M_32, k => (if (84 : Int32) ≤ x2_32 then (k x1_32 M_32) else (ck ((89 : Int32) + x2_32) 173 (bd ((M_32 0) (ix ((89 : Int32) + x2_32))) (fun v10 => (if v10 = (-1 : Int32) then (f7_match_L32  fu x1_32 (x2_32 + 1) M_32 k) else (ob1 (f7_isLeftover M_32 v10) (fun r12 => (if r12 = 0 then (f7_match_L32  fu x1_32 (x2_32 + 1) M_32 k) else (ob1 (f7_sourceFor M_32 v10 (x2_32 / (3 : Int32))) (fun r16 => (ck x2_32 84 (bd (pset M_32 8 (upd (M_32 8) (ix x2_32) r16)) (fun Mb19 => (if x1_32 = 0 then (if r16 = (-1 : Int32) then (f7_match_L32  fu (0 : Int32) (x2_32 + 1) Mb19 k) else (ck r16 84 (bd (pset Mb19 9 (upd (Mb19 9) (ix r16) (1 : Int32))) (fun Mb23 => (f7_match_L32  fu (0 : Int32) (x2_32 + 1) Mb23 k))))) else (if r16 = (-1 : Int32) then (f7_match_L32  fu (0 : Int32) (x2_32 + 1) Mb19 k) else (ck r16 84 (bd (pset Mb19 9 (upd (Mb19 9) (ix r16) (1 : Int32))) (fun Mb26 => (f7_match_L32  fu (1 : Int32) (x2_32 + 1) Mb26 k)))))))))))))))))))

def f7_match (M : Pic) : Option (Int32 × Pic) := (f7_match_L2  84 (0 : Int32) M (fun M_2 => (f7_match_L32  84 (1 : Int32) (0 : Int32) M_2 (fun x1_32 M_32 => (some (x1_32, M_32))))))
def f7_vetoed_L4 (M : Pic) (p1 : Int32) : Nat → Int32 → Int32 → (Int32 → (Option (Int32))) → Option (Int32)
  | 0, x2_4, x3_4, k => (k x2_4)
  | fu + 1, x2_4, x3_4, k => (if ((M 0) (ix (4 : Int32))) ≤ x3_4 then (k x2_4) else (ob1 (f7_ofGuest M x3_4 (0 : Int32)) (fun r3 => (if (f7_has r3 (p1 - p1 / (7 : Int32) * (7 : Int32))) = 0 then (bd (x2_4 ||| (0 : Int32)) (fun v8 => (f7_vetoed_L4 M p1 fu v8 (x3_4 + 1) k))) else (ob1 (f7_ofGuest M x3_4 (1 : Int32)) (fun r9 => (bd (x2_4 ||| r9) (fun v11 => (f7_vetoed_L4 M p1 fu v11 (x3_4 + 1) k)))))))))

def f7_vetoed (M : Pic) (p1 : Int32) : Option (Int32) := (f7_vetoed_L4 M p1 (fuelN (0 : Int32) ((M 0) (ix (4 : Int32)))) (0 : Int32) (0 : Int32) (fun x2_4 => (some x2_4)))

def f7_isVetoed (M : Pic) (p1 : Int32) (p2 : Int32) : Option (Int32) := (ob1 (f7_vetoed M p1) (fun r1 => (ob1 (f7_of M p2 (2 : Int32)) (fun r3 => (some (f7_has r1 r3))))))
def f7_someVetoed_L4 (M : Pic) : Nat → Int32 → Int32 → (Int32 → (Option (Int32))) → Option (Int32)
  | 0, x1_4, x2_4, k => (k x1_4)
  | fu + 1, x1_4, x2_4, k => (if (84 : Int32) ≤ x2_4 then (k x1_4) else (if x1_4 = 0 then (ck ((89 : Int32) + x2_4) 173 (if ((M 0) (ix ((89 : Int32) + x2_4))) = (-1 : Int32) then (f7_someVetoed_L4 M fu (0 : Int32) (x2_4 + 1) k) else (ck ((89 : Int32) + x2_4) 173 (ob1 (f7_isVetoed M (x2_4 / (3 : Int32)) ((M 0) (ix ((89 : Int32) + x2_4)))) (fun r7 => (if r7 = 0 then (f7_someVetoed_L4 M fu (0 : Int32) (x2_4 + 1) k) else (f7_someVetoed_L4 M fu (1 : Int32) (x2_4 + 1) k))))))) else (f7_someVetoed_L4 M fu (1 : Int32) (x2_4 + 1) k)))

def f7_someVetoed (M : Pic) : Option (Int32) := (f7_someVetoed_L4 M 84 (0 : Int32) (0 : Int32) (fun x1_4 => (some x1_4)))
def f7_costOf_L4 (M : Pic) (p1 : Int32) : Nat → Int32 → Int32 → (Int32 → (Option (Int32))) → Option (Int32)
  | 0, x2_4, x3_4, k => (k x2_4)
  | fu + 1, x2_4, x3_4, k => (if (3 : Int32) ≤ x3_4 then (k x2_4) else (ob1 (f7_at M p1 x3_4) (fun r3 => (if r3 = (-1 : Int32) then (bd (x2_4 + (0 : Int32)) (fun v11 => (f7_costOf_L4 M p1 fu v11 (x3_4 + 1) k))) else (ob1 (f7_at M p1 x3_4) (fun r6 => (ob1 (f7_of M r6 (1 : Int32)) (fun r8 => (bd (x2_4 + r8) (fun v10 => (f7_costOf_L4 M p1 fu v10 (x3_4 + 1) k)))))))))))

def f7_costOf (M : Pic) (p1 : Int32) : Option (Int32) := (f7_costOf_L4 M p1 3 (0 : Int32) (0 : Int32) (fun x2_4 => (some x2_4)))
def f7_weekCost_L7 (M : Pic) (p1 : Int32) : Nat → Int32 → Int32 → (Int32 → (Option (Int32))) → Option (Int32)
  | 0, x2_7, x3_7, k => (k x2_7)
  | fu + 1, x2_7, x3_7, k => (if (((7 : Int32) * p1) + (7 : Int32)) ≤ x3_7 then (k x2_7) else (ob1 (f7_costOf M x3_7) (fun r4 => (bd (x2_7 + r4) (fun v6 => (f7_weekCost_L7 M p1 fu v6 (x3_7 + 1) k))))))

def f7_weekCost (M : Pic) (p1 : Int32) : Option (Int32) := (bd ((7 : Int32) * p1) (fun v1 => (f7_weekCost_L7 M p1 (fuelN v1 (((7 : Int32) * p1) + (7 : Int32))) (0 : Int32) v1 (fun x2_7 => (some x2_7)))))
def f7_isDear_L4 (M : Pic) (p1 : Int32) : Nat → Int32 → Int32 → (Int32 → (Option (Int32))) → Option (Int32)
  | 0, x2_4, x3_4, k => (k x2_4)
  | fu + 1, x2_4, x3_4, k => (if (4 : Int32) ≤ x3_4 then (k x2_4) else (if x2_4 = 0 then (ob1 (f7_weekCost M x3_4) (fun r4 => (if r4 ≤ p1 then (f7_isDear_L4 M p1 fu (0 : Int32) (x3_4 + 1) k) else (f7_isDear_L4 M p1 fu (1 : Int32) (x3_4 + 1) k)))) else (f7_isDear_L4 M p1 fu (1 : Int32) (x3_4 + 1) k)))

def f7_isDear (M : Pic) (p1 : Int32) : Option (Int32) := (f7_isDear_L4 M p1 4 (0 : Int32) (0 : Int32) (fun x2_4 => (some x2_4)))

def f7_isGood (M : Pic) : Option (Int32 × Pic) := (ob1 (f7_someVetoed M) (fun r1 => (if r1 = 0 then (ob1 (f7_isDear M ((M 0) (ix (2 : Int32)))) (fun r5 => (if r5 = 0 then (ob2 (f7_match M) (fun r9 u10 => (if r9 = 0 then (some ((0 : Int32), u10)) else (some ((1 : Int32), u10))))) else (some ((0 : Int32), M))))) else (some ((0 : Int32), M)))))
def f7_joyNow_L25 (M : Pic) (p1 : Int32) (p2 : Int32) : Nat → Int32 → Int32 → (Int32 → (Option (Int32))) → Option (Int32)
  | 0, x4_25, x5_25, k => (k x4_25)
  | fu + 1, x4_25, x5_25, k => (if ((3 : Int32) * p1) ≤ x5_25 then (k x4_25) else (ck ((89 : Int32) + x5_25) 173 (if ((M 0) (ix ((89 : Int32) + x5_25))) = (-1 : Int32) then (bd (x4_25 + (0 : Int32)) (fun v6 => (f7_joyNow_L25 M p1 p2 fu v6 (x5_25 + 1) k))) else (ck ((89 : Int32) + x5_25) 173 (ob1 (f7_of M ((M 0) (ix ((89 : Int32) + x5_25))) (2 : Int32)) (fun r8 => (ob1 (f7_of M p2 (2 : Int32)) (fun r10 => (if r8 = r10 then (bd (x4_25 + (1 : Int32)) (fun v14 => (f7_joyNow_L25 M p1 p2 fu v14 (x5_25 + 1) k))) else (bd (x4_25 + (0 : Int32)) (fun v13 => (f7_joyNow_L25 M p1 p2 fu v13 (x5_25 + 1) k))))))))))))

def f7_joyNow (M : Pic) (p1 : Int32) (p2 : Int32) : Option (Int32) := (bd ((3 : Int32) * (p1 - ((M 0) (ix (1 : Int32))))) (fun v1 => (jn (fun y0_j15 => (f7_joyNow_L25 M p1 p2 (fuelN y0_j15 ((3 : Int32) * p1)) (0 : Int32) y0_j15 (fun x4_25 => (ob1 (f7_of M p2 (3 : Int32)) (fun r15 => (bd (r15 - (((M 0) (ix (0 : Int32))) * x4_25)) (fun v17 => (if 0 ≤ v17 then (some v17) else (some (0 : Int32)))))))))) (fun kJ15 => (if 0 ≤ v1 then (kJ15 v1) else (kJ15 (0 : Int32)))))))
def f7_joyOf_L4 (M : Pic) (p1 : Int32) : Nat → Int32 → Int32 → (Int32 → (Option (Int32))) → Option (Int32)
  | 0, x2_4, x3_4, k => (k x2_4)
  | fu + 1, x2_4, x3_4, k => (if (3 : Int32) ≤ x3_4 then (k x2_4) else (ob1 (f7_at M p1 x3_4) (fun r3 => (if r3 = (-1 : Int32) then (bd (x2_4 + (0 : Int32)) (fun v11 => (f7_joyOf_L4 M p1 fu v11 (x3_4 + 1) k))) else (ob1 (f7_at M p1 x3_4) (fun r6 => (ob1 (f7_joyNow M p1 r6) (fun r8 => (bd (x2_4 + r8) (fun v10 => (f7_joyOf_L4 M p1 fu v10 (x3_4 + 1) k)))))))))))

def f7_joyOf (M : Pic) (p1 : Int32) : Option (Int32) := (f7_joyOf_L4 M p1 3 (0 : Int32) (0 : Int32) (fun x2_4 => (some x2_4)))
def f7_joyOfAll_L4 (M : Pic) : Nat → Int32 → Int32 → (Int32 → (Option (Int32))) → Option (Int32)
  | 0, x1_4, x2_4, k => (k x1_4)
  | fu + 1, x1_4, x2_4, k => (if (28 : Int32) ≤ x2_4 then (k x1_4) else (ob1 (f7_joyOf M x2_4) (fun r3 => (bd (x1_4 + r3) (fun v5 => (f7_joyOfAll_L4 M fu v5 (x2_4 + 1) k))))))

def f7_joyOfAll (M : Pic) : Option (Int32) := (f7_joyOfAll_L4 M 28 (0 : Int32) (0 : Int32) (fun x1_4 => (some x1_4)))
def f7_save_L54  : Nat → Int32 → Pic → (Pic → (Option (Pic))) → Option (Pic)
  | 0, x1_54, M_54, k => (k M_54)
  | fu + 1, x1_54, M_54, k => (if (173 : Int32) ≤ x1_54 then (k M_54) else (ck x1_54 173 (ck (((173 : Int32) * ((M_54 1) 0)) + x1_54) 1038 (bd (pset M_54 2 (upd (M_54 2) (ix (((173 : Int32) * ((M_54 1) 0)) + x1_54)) ((M_54 0) (ix x1_54)))) (fun Mb5 => (f7_save_L54  fu (x1_54 + 1) Mb5 k))))))

def f7_save_L13  : Nat → Int32 → Pic → (Pic → (Option (Pic))) → Option (Pic)
  | 0, x1_13, M_13, k => (k M_13)
  | fu + 1, x1_13, M_13, k => (if (1038 : Int32) ≤ x1_13 then (k M_13) else (ck x1_13 1038 (ck (x1_13 - (173 : Int32)) 1038 (bd (pset M_13 2 (upd (M_13 2) (ix (x1_13 - (173 : Int32))) ((M_13 2) (ix x1_13)))) (fun Mb12 => (f7_save_L13  fu (x1_13 + 1) Mb12 k))))))

def f7_save (M : Pic) : Option (Pic) := (jn (fun M_j6 => (f7_save_L54  173 (0 : Int32) M_j6 (fun M_54 => (bd (pset M_54 1 (fun _ => (((M_54 1) 0) + (1 : Int32)))) (fun Mb6 => (some Mb6)))))) (fun kJ6 => (if ((M 1) 0) = (6 : Int32) then (f7_save_L13  865 (173 : Int32) M (fun M_13 => (bd (pset M_13 1 (fun _ => (((M_13 1) 0) - (1 : Int32)))) (fun Mb13 => (kJ6 Mb13))))) else (kJ6 M))))

def f7_addDish (M : Pic) (p1 : Int32) (p2 : Int32) (p3 : Int32) (p4 : Int32) : Option (Int32 × Pic) := (if (f7_isPart p1) = 0 then (some ((0 : Int32), (pset M 7 (fun _ => (1 : Int32))))) else (if (f7_within p2 (0 : Int32) (30 : Int32)) = 0 then (some ((0 : Int32), (pset M 7 (fun _ => (1 : Int32))))) else (if (f7_within p3 (0 : Int32) (5 : Int32)) = 0 then (some ((0 : Int32), (pset M 7 (fun _ => (1 : Int32))))) else (if (f7_within p4 (1 : Int32) (9 : Int32)) = 0 then (some ((0 : Int32), (pset M 7 (fun _ => (1 : Int32))))) else (if ((M 0) (ix (3 : Int32))) = (12 : Int32) then (some ((0 : Int32), (pset M 7 (fun _ => (2 : Int32))))) else (ob1 (f7_save (pset M 7 (fun _ => (0 : Int32)))) (fun u14 => (bd ((5 : Int32) + ((6 : Int32) * ((u14 0) (ix (3 : Int32))))) (fun v16 => (ck (v16 + (0 : Int32)) 173 (bd (pset u14 0 (upd (u14 0) (ix (v16 + (0 : Int32))) p1)) (fun Mb18 => (ck (v16 + (1 : Int32)) 173 (bd (pset Mb18 0 (upd (Mb18 0) (ix (v16 + (1 : Int32))) p2)) (fun Mb20 => (ck (v16 + (2 : Int32)) 173 (bd (pset Mb20 0 (upd (Mb20 0) (ix (v16 + (2 : Int32))) p3)) (fun Mb22 => (ck (v16 + (3 : Int32)) 173 (bd (pset Mb22 0 (upd (Mb22 0) (ix (v16 + (3 : Int32))) p4)) (fun Mb24 => (ck (v16 + (4 : Int32)) 173 (bd (pset Mb24 0 (upd (Mb24 0) (ix (v16 + (4 : Int32))) (-1 : Int32))) (fun Mb26 => (ck (v16 + (5 : Int32)) 173 (bd (pset Mb26 0 (upd (Mb26 0) (ix (v16 + (5 : Int32))) (0 : Int32))) (fun Mb28 => (bd (pset Mb28 0 (upd (Mb28 0) (ix (3 : Int32)) (((Mb28 0) (ix (3 : Int32))) + (1 : Int32)))) (fun Mb29 => (some ((((Mb29 0) (ix (3 : Int32))) - (1 : Int32)), Mb29)))))))))))))))))))))))))))))))

def f7_setLeft (M : Pic) (p1 : Int32) (p2 : Int32) (p3 : Int32) : Option (Pic) := (ck (((5 : Int32) + ((6 : Int32) * p1)) + (4 : Int32)) 173 (bd (pset M 0 (upd (M 0) (ix (((5 : Int32) + ((6 : Int32) * p1)) + (4 : Int32))) p2)) (fun Mb2 => (if p2 = (-1 : Int32) then (ck (((5 : Int32) + ((6 : Int32) * p1)) + (5 : Int32)) 173 (bd (pset Mb2 0 (upd (Mb2 0) (ix (((5 : Int32) + ((6 : Int32) * p1)) + (5 : Int32))) (0 : Int32))) (fun Mb7 => (some Mb7)))) else (ck (((5 : Int32) + ((6 : Int32) * p1)) + (5 : Int32)) 173 (bd (pset Mb2 0 (upd (Mb2 0) (ix (((5 : Int32) + ((6 : Int32) * p1)) + (5 : Int32))) p3)) (fun Mb5 => (some Mb5))))))))

def f7_soundThen (M : Pic) (p1 : Int32) (p2 : Int32) (p3 : Int32) : Option (Int32 × Pic) := (ob1 (f7_of M p1 (4 : Int32)) (fun r1 => (ob1 (f7_of M p1 (5 : Int32)) (fun r3 => (ob1 (f7_setLeft M p1 p2 p3) (fun u5 => (ob2 (f7_match u5) (fun r7 u8 => (ob1 (f7_setLeft u8 p1 r1 r3) (fun u11 => (some (r7, u11))))))))))))

def f7_leave (M : Pic) (p1 : Int32) (p2 : Int32) (p3 : Int32) : Option (Int32 × Pic) := (if (f7_isDish M p1) = 0 then (if p2 = (-1 : Int32) then (some ((0 : Int32), (pset M 7 (fun _ => (1 : Int32))))) else (if (f7_within p3 (1 : Int32) (6 : Int32)) = 0 then (some ((0 : Int32), (pset M 7 (fun _ => (1 : Int32))))) else (if p1 = p2 then (some ((0 : Int32), (pset M 7 (fun _ => (1 : Int32))))) else (some ((0 : Int32), (pset M 7 (fun _ => (1 : Int32)))))))) else (if p2 = (-1 : Int32) then (ob2 (f7_soundThen (pset M 7 (fun _ => (0 : Int32))) p1 p2 p3) (fun r10 u11 => (if r10 = 0 then (some ((0 : Int32), (pset u11 7 (fun _ => (3 : Int32))))) else (ob1 (f7_save (pset u11 7 (fun _ => (0 : Int32)))) (fun u15 => (ob1 (f7_of u15 p1 (4 : Int32)) (fun r17 => (ob1 (f7_setLeft u15 p1 p2 p3) (fun u19 => (some (r17, u19))))))))))) else (if (f7_isDish M p2) = 0 then (if (f7_within p3 (1 : Int32) (6 : Int32)) = 0 then (some ((0 : Int32), (pset M 7 (fun _ => (1 : Int32))))) else (if p1 = p2 then (some ((0 : Int32), (pset M 7 (fun _ => (1 : Int32))))) else (some ((0 : Int32), (pset M 7 (fun _ => (1 : Int32))))))) else (if (f7_within p3 (1 : Int32) (6 : Int32)) = 0 then (some ((0 : Int32), (pset M 7 (fun _ => (2 : Int32))))) else (if p1 = p2 then (some ((0 : Int32), (pset M 7 (fun _ => (2 : Int32))))) else (ob2 (f7_soundThen (pset M 7 (fun _ => (0 : Int32))) p1 p2 p3) (fun r32 u33 => (if r32 = 0 then (some ((0 : Int32), (pset u33 7 (fun _ => (3 : Int32))))) else (ob1 (f7_save (pset u33 7 (fun _ => (0 : Int32)))) (fun u37 => (ob1 (f7_of u37 p1 (4 : Int32)) (fun r39 => (ob1 (f7_setLeft u37 p1 p2 p3) (fun u41 => (some (r39, u41))))))))))))))))

def f7_addGuest (M : Pic) : Option (Int32 × Pic) := (if ((M 0) (ix (4 : Int32))) = (6 : Int32) then (some ((0 : Int32), (pset M 7 (fun _ => (1 : Int32))))) else (ob1 (f7_save (pset M 7 (fun _ => (0 : Int32)))) (fun u2 => (ck (((77 : Int32) + ((2 : Int32) * ((u2 0) (ix (4 : Int32))))) + (0 : Int32)) 173 (bd (pset u2 0 (upd (u2 0) (ix (((77 : Int32) + ((2 : Int32) * ((u2 0) (ix (4 : Int32))))) + (0 : Int32))) (127 : Int32))) (fun Mb5 => (ck (((77 : Int32) + ((2 : Int32) * ((Mb5 0) (ix (4 : Int32))))) + (1 : Int32)) 173 (bd (pset Mb5 0 (upd (Mb5 0) (ix (((77 : Int32) + ((2 : Int32) * ((Mb5 0) (ix (4 : Int32))))) + (1 : Int32))) (0 : Int32))) (fun Mb7 => (bd (pset Mb7 0 (upd (Mb7 0) (ix (4 : Int32)) (((Mb7 0) (ix (4 : Int32))) + (1 : Int32)))) (fun Mb8 => (some ((((Mb8 0) (ix (4 : Int32))) - (1 : Int32)), Mb8)))))))))))))

def f7_vetoedThen (M : Pic) (p1 : Int32) (p2 : Int32) (p3 : Int32) : Option (Int32 × Pic) := (ob1 (f7_ofGuest M p1 p2) (fun r1 => (ck (((77 : Int32) + ((2 : Int32) * p1)) + p2) 173 (bd (pset M 0 (upd (M 0) (ix (((77 : Int32) + ((2 : Int32) * p1)) + p2)) p3)) (fun Mb4 => (ob1 (f7_someVetoed Mb4) (fun r5 => (ck (((77 : Int32) + ((2 : Int32) * p1)) + p2) 173 (bd (pset Mb4 0 (upd (Mb4 0) (ix (((77 : Int32) + ((2 : Int32) * p1)) + p2)) r1)) (fun Mb9 => (some (r5, Mb9))))))))))))

def f7_changesGuest (M : Pic) (p1 : Int32) (p2 : Int32) (p3 : Int32) (p4 : Int32) : Option (Int32 × Pic) := (if (f7_isGuest M p1) = 0 then (some ((0 : Int32), (pset M 7 (fun _ => (1 : Int32))))) else (if (f7_within p3 (0 : Int32) p4) = 0 then (some ((0 : Int32), (pset M 7 (fun _ => (2 : Int32))))) else (ob2 (f7_vetoedThen (pset M 7 (fun _ => (0 : Int32))) p1 p2 p3) (fun r7 u8 => (if r7 = 0 then (ob1 (f7_save (pset u8 7 (fun _ => (0 : Int32)))) (fun u12 => (ob1 (f7_ofGuest u12 p1 p2) (fun r14 => (ck (((77 : Int32) + ((2 : Int32) * p1)) + p2) 173 (bd (pset u12 0 (upd (u12 0) (ix (((77 : Int32) + ((2 : Int32) * p1)) + p2)) p3)) (fun Mb17 => (some (r14, Mb17))))))))) else (some ((0 : Int32), (pset u8 7 (fun _ => (3 : Int32))))))))))

def f7_come (M : Pic) (p1 : Int32) (p2 : Int32) : Option (Int32 × Pic) := (ob2 (f7_changesGuest M p1 (0 : Int32) p2 (127 : Int32)) (fun r1 u2 => (some (r1, u2))))

def f7_veto (M : Pic) (p1 : Int32) (p2 : Int32) : Option (Int32 × Pic) := (ob2 (f7_changesGuest M p1 (1 : Int32) p2 (63 : Int32)) (fun r1 u2 => (some (r1, u2))))

def f7_set (M : Pic) (p1 : Int32) (p2 : Int32) : Option (Int32 × Pic) := (if (f7_isSetting p1) = 0 then (some ((0 : Int32), (pset M 7 (fun _ => (1 : Int32))))) else (if (f7_isValue p1 p2) = 0 then (some ((0 : Int32), (pset M 7 (fun _ => (2 : Int32))))) else (if p1 = (2 : Int32) then (ob1 (f7_isDear M p2) (fun r14 => (if r14 = 0 then (ob1 (f7_save (pset M 7 (fun _ => (0 : Int32)))) (fun u18 => (ck p1 173 (bd ((u18 0) (ix p1)) (fun v21 => (ck p1 173 (bd (pset u18 0 (upd (u18 0) (ix p1) p2)) (fun Mb23 => (some (v21, Mb23)))))))))) else (some ((0 : Int32), (pset M 7 (fun _ => (3 : Int32)))))))) else (ob1 (f7_save (pset M 7 (fun _ => (0 : Int32)))) (fun u8 => (ck p1 173 (bd ((u8 0) (ix p1)) (fun v11 => (ck p1 173 (bd (pset u8 0 (upd (u8 0) (ix p1) p2)) (fun Mb13 => (some (v11, Mb13)))))))))))))

def f7_put (M : Pic) (p1 : Int32) (p2 : Int32) (p3 : Int32) : Option (Pic) := (ck (((89 : Int32) + ((3 : Int32) * p1)) + p2) 173 (bd (pset M 0 (upd (M 0) (ix (((89 : Int32) + ((3 : Int32) * p1)) + p2)) p3)) (fun Mb2 => (some Mb2))))

def f7_soundWith (M : Pic) (p1 : Int32) (p2 : Int32) (p3 : Int32) : Option (Int32 × Pic) := (ob1 (f7_at M p1 p2) (fun r1 => (ob1 (f7_put M p1 p2 p3) (fun u3 => (ob2 (f7_match u3) (fun r5 u6 => (ob1 (f7_put u6 p1 p2 r1) (fun u9 => (some (r5, u9))))))))))

def f7_reason (M : Pic) (p1 : Int32) (p2 : Int32) (p3 : Int32) : Option (Int32 × Pic) := (ob1 (f7_at M p1 p2) (fun r1 => (if r1 = (-1 : Int32) then (ob1 (f7_of M p3 (0 : Int32)) (fun r4 => (if r4 = p2 then (ob1 (f7_isVetoed M p1 p3) (fun r7 => (if r7 = 0 then (ob1 (f7_weekCost M (p1 / (7 : Int32))) (fun r11 => (ob1 (f7_of M p3 (1 : Int32)) (fun r13 => (if (r11 + r13) ≤ ((M 0) (ix (2 : Int32))) then (ob2 (f7_soundWith M p1 p2 p3) (fun r16 u17 => (if r16 = 0 then (some ((5 : Int32), u17)) else (some ((0 : Int32), u17))))) else (some ((4 : Int32), M))))))) else (some ((3 : Int32), M))))) else (some ((2 : Int32), M))))) else (some ((1 : Int32), M)))))

def f7_canServe (M : Pic) (p1 : Int32) (p2 : Int32) : Option (Int32 × Pic) := (ob1 (f7_of M p2 (0 : Int32)) (fun r1 => (ob2 (f7_reason M p1 r1 p2) (fun r3 u4 => (if r3 = 0 then (some ((1 : Int32), u4)) else (some ((0 : Int32), u4)))))))

def f7_serve (M : Pic) (p1 : Int32) (p2 : Int32) : Option (Int32 × Pic) := (if (f7_isDay p1) = 0 then (some ((0 : Int32), (pset M 7 (fun _ => (1 : Int32))))) else (if (f7_isDish M p2) = 0 then (some ((0 : Int32), (pset M 7 (fun _ => (1 : Int32))))) else (ob2 (f7_canServe (pset M 7 (fun _ => (0 : Int32))) p1 p2) (fun r7 u8 => (if r7 = 0 then (some ((0 : Int32), (pset u8 7 (fun _ => (2 : Int32))))) else (ob1 (f7_save (pset u8 7 (fun _ => (0 : Int32)))) (fun u12 => (ob1 (f7_of u12 p2 (0 : Int32)) (fun r14 => (ob1 (f7_put u12 p1 r14 p2) (fun u16 => (ob1 (f7_joyNow u16 p1 p2) (fun r18 => (some (r18, u16)))))))))))))))

def f7_drop (M : Pic) (p1 : Int32) (p2 : Int32) : Option (Int32 × Pic) := (if (f7_isDay p1) = 0 then (some ((0 : Int32), (pset M 7 (fun _ => (1 : Int32))))) else (if (f7_isPart p2) = 0 then (some ((0 : Int32), (pset M 7 (fun _ => (1 : Int32))))) else (ob1 (f7_at (pset M 7 (fun _ => (0 : Int32))) p1 p2) (fun r7 => (if r7 = (-1 : Int32) then (some ((0 : Int32), (pset M 7 (fun _ => (2 : Int32))))) else (ob2 (f7_soundWith (pset M 7 (fun _ => (0 : Int32))) p1 p2 (-1 : Int32)) (fun r10 u11 => (if r10 = 0 then (some ((0 : Int32), (pset u11 7 (fun _ => (2 : Int32))))) else (ob1 (f7_save (pset u11 7 (fun _ => (0 : Int32)))) (fun u15 => (ob1 (f7_at u15 p1 p2) (fun r17 => (ob1 (f7_put u15 p1 p2 (-1 : Int32)) (fun u19 => (some (r17, u19))))))))))))))))
def f7_swap_L2 (p1 : Int32) (p2 : Int32) : Nat → Int32 → Pic → (Pic → (Option (Pic))) → Option (Pic)
  | 0, x3_2, M_2, k => (k M_2)
  | fu + 1, x3_2, M_2, k => (if (3 : Int32) ≤ x3_2 then (k M_2) else (ob1 (f7_at M_2 p1 x3_2) (fun r3 => (ob1 (f7_at M_2 p2 x3_2) (fun r5 => (ob1 (f7_put M_2 p1 x3_2 r5) (fun u7 => (ob1 (f7_put u7 p2 x3_2 r3) (fun u9 => (f7_swap_L2 p1 p2 fu (x3_2 + 1) u9 k))))))))))

def f7_swap (M : Pic) (p1 : Int32) (p2 : Int32) : Option (Pic) := (f7_swap_L2 p1 p2 3 (0 : Int32) M (fun M_2 => (some M_2)))

def f7_goodSwapped (M : Pic) (p1 : Int32) (p2 : Int32) : Option (Int32 × Pic) := (ob1 (f7_swap M p1 p2) (fun u1 => (ob2 (f7_isGood u1) (fun r3 u4 => (ob1 (f7_swap u4 p1 p2) (fun u7 => (some (r3, u7))))))))

def f7_exchange (M : Pic) (p1 : Int32) (p2 : Int32) : Option (Int32 × Pic) := (if (f7_isDay p1) = 0 then (some ((0 : Int32), (pset M 7 (fun _ => (1 : Int32))))) else (if (f7_isDay p2) = 0 then (some ((0 : Int32), (pset M 7 (fun _ => (1 : Int32))))) else (ob2 (f7_goodSwapped (pset M 7 (fun _ => (0 : Int32))) p1 p2) (fun r7 u8 => (if r7 = 0 then (some ((0 : Int32), (pset u8 7 (fun _ => (2 : Int32))))) else (ob1 (f7_save (pset u8 7 (fun _ => (0 : Int32)))) (fun u12 => (ob1 (f7_swap u12 p1 p2) (fun u14 => (ob1 (f7_joyOfAll u14) (fun r16 => (some (r16, u14)))))))))))))
def f7_bestFor_L5 (p1 : Int32) (p2 : Int32) : Nat → Int32 → Int32 → Pic → (Int32 → Pic → (Option (Int32 × Pic))) → Option (Int32 × Pic)
  | 0, x3_5, x4_5, M_5, k => none
  | fu + 1, x3_5, x4_5, M_5, k => (if ((M_5 0) (ix (3 : Int32))) ≤ x4_5 then (k x3_5 M_5) else (ob2 (f7_reason M_5 p1 p2 x4_5) (fun r2 u3 => (if r2 = 0 then (if x3_5 = (-1 : Int32) then (f7_bestFor_L5 p1 p2 fu x4_5 (x4_5 + 1) u3 k) else (ob1 (f7_joyNow u3 p1 x4_5) (fun r7 => (ob1 (f7_joyNow u3 p1 x3_5) (fun r9 => (bd (r7 - r9) (fun v11 => (if 0 < v11 then (f7_bestFor_L5 p1 p2 fu x4_5 (x4_5 + 1) u3 k) else (if v11 = 0 then (ob1 (f7_of u3 x4_5 (1 : Int32)) (fun r14 => (ob1 (f7_of u3 x3_5 (1 : Int32)) (fun r16 => (if r16 ≤ r14 then (f7_bestFor_L5 p1 p2 fu x3_5 (x4_5 + 1) u3 k) else (f7_bestFor_L5 p1 p2 fu x4_5 (x4_5 + 1) u3 k)))))) else (f7_bestFor_L5 p1 p2 fu x3_5 (x4_5 + 1) u3 k)))))))))) else (f7_bestFor_L5 p1 p2 fu x3_5 (x4_5 + 1) u3 k)))))

def f7_bestFor (M : Pic) (p1 : Int32) (p2 : Int32) : Option (Int32 × Pic) := (f7_bestFor_L5 p1 p2 13 (-1 : Int32) (0 : Int32) M (fun x3_5 M_5 => (some (x3_5, M_5))))
def f7_fill_L33 (p1 : Int32) : Nat → Int32 → Int32 → Pic → (Int32 → Pic → (Option (Int32 × Pic))) → Option (Int32 × Pic)
  | 0, x2_33, x3_33, M_33, k => (k x2_33 M_33)
  | fu + 1, x2_33, x3_33, M_33, k => (if (3 : Int32) ≤ x3_33 then (k x2_33 M_33) else (ob2 (f7_bestFor M_33 p1 x3_33) (fun r8 u9 => (if r8 = (-1 : Int32) then (f7_fill_L33 p1 fu x2_33 (x3_33 + 1) u9 k) else (ob1 (f7_put u9 p1 x3_33 r8) (fun u12 => (f7_fill_L33 p1 fu (x2_33 + 1) (x3_33 + 1) u12 k)))))))

def f7_fill (M : Pic) (p1 : Int32) : Option (Int32 × Pic) := (if (f7_isDay p1) = 0 then (some ((0 : Int32), (pset M 7 (fun _ => (1 : Int32))))) else (ob1 (f7_save (pset M 7 (fun _ => (0 : Int32)))) (fun u4 => (f7_fill_L33 p1 3 (0 : Int32) (0 : Int32) u4 (fun x2_33 M_33 => (some (x2_33, M_33)))))))
def f7_dishesInPlan_L4 (M : Pic) : Nat → Int32 → Int32 → (Int32 → (Option (Int32))) → Option (Int32)
  | 0, x1_4, x2_4, k => (k x1_4)
  | fu + 1, x1_4, x2_4, k => (if (84 : Int32) ≤ x2_4 then (k x1_4) else (ck ((89 : Int32) + x2_4) 173 (if ((M 0) (ix ((89 : Int32) + x2_4))) = (-1 : Int32) then (bd (x1_4 + (0 : Int32)) (fun v6 => (f7_dishesInPlan_L4 M fu v6 (x2_4 + 1) k))) else (bd (x1_4 + (1 : Int32)) (fun v5 => (f7_dishesInPlan_L4 M fu v5 (x2_4 + 1) k))))))

def f7_dishesInPlan (M : Pic) : Option (Int32) := (f7_dishesInPlan_L4 M 84 (0 : Int32) (0 : Int32) (fun x1_4 => (some x1_4)))
def f7_clear_L16  : Nat → Int32 → Pic → (Pic → (Option (Int32 × Pic))) → Option (Int32 × Pic)
  | 0, x2_16, M_16, k => (k M_16)
  | fu + 1, x2_16, M_16, k => (if (84 : Int32) ≤ x2_16 then (k M_16) else (ck ((89 : Int32) + x2_16) 173 (bd (pset M_16 0 (upd (M_16 0) (ix ((89 : Int32) + x2_16)) (-1 : Int32))) (fun Mb8 => (f7_clear_L16  fu (x2_16 + 1) Mb8 k)))))

def f7_clear (M : Pic) : Option (Int32 × Pic) := (ob1 (f7_save (pset M 7 (fun _ => (0 : Int32)))) (fun u1 => (ob1 (f7_dishesInPlan u1) (fun r3 => (f7_clear_L16  84 (0 : Int32) u1 (fun M_16 => (some (r3, M_16))))))))

def f7_append (M : Pic) (p1 : Int32) : Option (Int32 × Pic) := (if (f7_within p1 (33 : Int32) (126 : Int32)) = 0 then (some ((0 : Int32), (pset M 7 (fun _ => (1 : Int32))))) else (if ((M 5) 0) = (60 : Int32) then (some ((0 : Int32), (pset M 7 (fun _ => (2 : Int32))))) else (ck ((M 5) 0) 60 (bd (pset (pset M 6 (upd (M 6) (ix ((M 5) 0)) p1)) 7 (fun _ => (0 : Int32))) (fun Mb6 => (bd (pset Mb6 5 (fun _ => (((Mb6 5) 0) + (1 : Int32)))) (fun Mb7 => (some (((Mb7 5) 0), Mb7)))))))))

def f7_clearBuffer (M : Pic) : Option (Int32 × Pic) := (bd ((M 5) 0) (fun v1 => (some (v1, (pset (pset M 5 (fun _ => (0 : Int32))) 7 (fun _ => (0 : Int32)))))))

def f7_takesDigit (M : Pic) (p1 : Int32) : Option (Int32 × Pic) := (if ((M 12) 0) = (-1 : Int32) then (if (f7_within p1 (0 : Int32) (9 : Int32)) = 0 then (bd (pset M 12 (fun _ => ((M 12) 0))) (fun Mb17 => (some ((0 : Int32), Mb17)))) else (if ((M 12) 0) = 0 then (bd (pset M 12 (fun _ => ((M 12) 0))) (fun Mb19 => (some ((0 : Int32), Mb19)))) else (if (f7_isDay p1) = 0 then (bd (pset M 12 (fun _ => ((M 12) 0))) (fun Mb23 => (some ((0 : Int32), Mb23)))) else (bd (pset M 12 (fun _ => p1)) (fun Mb24 => (some ((1 : Int32), Mb24))))))) else (bd (((10 : Int32) * ((M 12) 0)) + p1) (fun v2 => (if (f7_within p1 (0 : Int32) (9 : Int32)) = 0 then (bd (pset M 12 (fun _ => ((M 12) 0))) (fun Mb6 => (some ((0 : Int32), Mb6)))) else (if ((M 12) 0) = 0 then (bd (pset M 12 (fun _ => ((M 12) 0))) (fun Mb8 => (some ((0 : Int32), Mb8)))) else (if (f7_isDay v2) = 0 then (bd (pset M 12 (fun _ => ((M 12) 0))) (fun Mb12 => (some ((0 : Int32), Mb12)))) else (bd (pset M 12 (fun _ => v2)) (fun Mb13 => (some ((1 : Int32), Mb13))))))))))

def f7_takes (M : Pic) (p1 : Int32) : Option (Int32 × Pic) := (if ((M 13) 0) = 0 then (if p1 = (100 : Int32) then (some ((1 : Int32), (pset (pset M 12 (fun _ => (-1 : Int32))) 13 (fun _ => (1 : Int32))))) else (some ((0 : Int32), (pset (pset M 12 (fun _ => (-1 : Int32))) 13 (fun _ => (1 : Int32)))))) else (if ((M 13) 0) = 1 then (if p1 = (61 : Int32) then (if ((M 12) 0) = (-1 : Int32) then (ob2 (f7_takesDigit M (p1 - (48 : Int32))) (fun r10 u11 => (some (r10, u11)))) else (ck ((2 : Int32) * ((M 11) 0)) 28 (bd (pset M 10 (upd (M 10) (ix ((2 : Int32) * ((M 11) 0))) ((M 12) 0))) (fun Mb15 => (some ((1 : Int32), (pset Mb15 13 (fun _ => (2 : Int32))))))))) else (ob2 (f7_takesDigit M (p1 - (48 : Int32))) (fun r5 u6 => (some (r5, u6))))) else (if ((M 13) 0) = 2 then (ck (((2 : Int32) * ((M 11) 0)) + (1 : Int32)) 28 (bd (pset M 10 (upd (M 10) (ix (((2 : Int32) * ((M 11) 0)) + (1 : Int32))) (p1 - (97 : Int32)))) (fun Mb18 => (some ((f7_within p1 (97 : Int32) (108 : Int32)), (pset Mb18 13 (fun _ => (3 : Int32)))))))) else (if ((M 13) 0) = 3 then (bd (pset M 11 (fun _ => (((M 11) 0) + (1 : Int32)))) (fun Mb22 => (if p1 = (59 : Int32) then (some ((1 : Int32), (pset Mb22 13 (fun _ => (0 : Int32))))) else (some ((0 : Int32), (pset Mb22 13 (fun _ => (0 : Int32)))))))) else (if p1 = (61 : Int32) then (if ((M 12) 0) = (-1 : Int32) then (ob2 (f7_takesDigit M (p1 - (48 : Int32))) (fun r30 u31 => (some (r30, u31)))) else (ck ((2 : Int32) * ((M 11) 0)) 28 (bd (pset M 10 (upd (M 10) (ix ((2 : Int32) * ((M 11) 0))) ((M 12) 0))) (fun Mb35 => (some ((1 : Int32), (pset Mb35 13 (fun _ => (2 : Int32))))))))) else (ob2 (f7_takesDigit M (p1 - (48 : Int32))) (fun r25 u26 => (some (r25, u26)))))))))
def f7_rightUpTo_L12  : Nat → Int32 → Pic → (Int32 → Pic → (Option (Int32 × Pic))) → Option (Int32 × Pic)
  | 0, x1_12, M_12, k => none
  | fu + 1, x1_12, M_12, k => (if ((M_12 5) 0) ≤ x1_12 then (k x1_12 M_12) else (ck x1_12 60 (ob2 (f7_takes M_12 ((M_12 6) (ix x1_12))) (fun r3 u4 => (if r3 = 0 then (k x1_12 u4) else (f7_rightUpTo_L12  fu (x1_12 + 1) u4 k))))))

def f7_rightUpTo (M : Pic) : Option (Int32 × Pic) := (f7_rightUpTo_L12  61 (0 : Int32) (pset (pset M 11 (fun _ => (0 : Int32))) 13 (fun _ => (0 : Int32))) (fun x1_12 M_12 => (some (x1_12, M_12))))

def f7_firstError (M : Pic) : Option (Int32 × Pic) := (ob2 (f7_rightUpTo (pset M 7 (fun _ => (0 : Int32)))) (fun r1 u2 => (some (r1, u2))))

def f7_puts (M : Pic) (p1 : Int32) : Option (Int32 × Pic) := (ck ((2 : Int32) * p1) 28 (bd ((M 10) (ix ((2 : Int32) * p1))) (fun v2 => (ck (((2 : Int32) * p1) + (1 : Int32)) 28 (bd ((M 10) (ix (((2 : Int32) * p1) + (1 : Int32)))) (fun v4 => (if (f7_isDish M v4) = 0 then (some ((0 : Int32), M)) else (ob2 (f7_canServe M v2 v4) (fun r8 u9 => (if r8 = 0 then (some ((0 : Int32), u9)) else (ob1 (f7_of u9 v4 (0 : Int32)) (fun r13 => (ob1 (f7_put u9 v2 r13 v4) (fun u15 => (some ((1 : Int32), u15))))))))))))))))
def f7_read_L58  : Nat → Int32 → Pic → (Int32 → Pic → (Option (Int32 × Pic))) → Option (Int32 × Pic)
  | 0, x2_58, M_58, k => none
  | fu + 1, x2_58, M_58, k => (if ((M_58 11) 0) < x2_58 then (k x2_58 M_58) else (ob2 (f7_puts M_58 x2_58) (fun r9 u10 => (if r9 = 0 then (k x2_58 u10) else (f7_read_L58  fu (x2_58 + 1) u10 k)))))

def f7_read (M : Pic) : Option (Int32 × Pic) := (ob2 (f7_rightUpTo M) (fun r1 u2 => (if r1 = ((u2 5) 0) then (if ((u2 13) 0) = (3 : Int32) then (ob1 (f7_save (pset u2 7 (fun _ => (0 : Int32)))) (fun u6 => (f7_read_L58  20 (0 : Int32) (pset u6 5 (fun _ => (0 : Int32))) (fun x2_58 M_58 => (some (x2_58, M_58)))))) else (some ((0 : Int32), (pset u2 7 (fun _ => (1 : Int32)))))) else (some ((0 : Int32), (pset u2 7 (fun _ => (1 : Int32))))))))
def f7_take_L34 (p1 : Int32) : Nat → Int32 → Pic → (Pic → (Option (Int32 × Pic))) → Option (Int32 × Pic)
  | 0, x2_34, M_34, k => (k M_34)
  | fu + 1, x2_34, M_34, k => (if (84 : Int32) ≤ x2_34 then (k M_34) else (ck ((89 : Int32) + x2_34) 173 (ck (((84 : Int32) * p1) + x2_34) 168 (bd (pset M_34 3 (upd (M_34 3) (ix (((84 : Int32) * p1) + x2_34)) ((M_34 0) (ix ((89 : Int32) + x2_34))))) (fun Mb10 => (f7_take_L34 p1 fu (x2_34 + 1) Mb10 k))))))

def f7_take (M : Pic) (p1 : Int32) : Option (Int32 × Pic) := (if (f7_isSnapshot p1) = 0 then (some ((0 : Int32), (pset M 7 (fun _ => (1 : Int32))))) else (ck p1 2 (bd (pset (pset M 4 (upd (M 4) (ix p1) (1 : Int32))) 7 (fun _ => (0 : Int32))) (fun Mb5 => (f7_take_L34 p1 84 (0 : Int32) Mb5 (fun M_34 => (ob1 (f7_dishesInPlan M_34) (fun r11 => (some (r11, M_34))))))))))
def f7_trade_L2 (p1 : Int32) : Nat → Int32 → Pic → (Pic → (Option (Pic))) → Option (Pic)
  | 0, x2_2, M_2, k => (k M_2)
  | fu + 1, x2_2, M_2, k => (if (84 : Int32) ≤ x2_2 then (k M_2) else (ck ((89 : Int32) + x2_2) 173 (bd ((M_2 0) (ix ((89 : Int32) + x2_2))) (fun v4 => (ck (((84 : Int32) * p1) + x2_2) 168 (ck ((89 : Int32) + x2_2) 173 (bd (pset M_2 0 (upd (M_2 0) (ix ((89 : Int32) + x2_2)) ((M_2 3) (ix (((84 : Int32) * p1) + x2_2))))) (fun Mb7 => (ck (((84 : Int32) * p1) + x2_2) 168 (bd (pset Mb7 3 (upd (Mb7 3) (ix (((84 : Int32) * p1) + x2_2)) v4)) (fun Mb9 => (f7_trade_L2 p1 fu (x2_2 + 1) Mb9 k))))))))))))

def f7_trade (M : Pic) (p1 : Int32) : Option (Pic) := (f7_trade_L2 p1 84 (0 : Int32) M (fun M_2 => (some M_2)))
def f7_hasOwnParts_L4 (M : Pic) (p1 : Int32) : Nat → Int32 → Int32 → (Int32 → (Option (Int32))) → Option (Int32)
  | 0, x2_4, x3_4, k => (k x2_4)
  | fu + 1, x2_4, x3_4, k => (if (84 : Int32) ≤ x3_4 then (k x2_4) else (ck (((84 : Int32) * p1) + x3_4) 168 (bd ((M 3) (ix (((84 : Int32) * p1) + x3_4))) (fun v4 => (if x2_4 = 0 then (f7_hasOwnParts_L4 M p1 fu (0 : Int32) (x3_4 + 1) k) else (if v4 = (-1 : Int32) then (f7_hasOwnParts_L4 M p1 fu (1 : Int32) (x3_4 + 1) k) else (if (f7_isDish M v4) = 0 then (f7_hasOwnParts_L4 M p1 fu (0 : Int32) (x3_4 + 1) k) else (ob1 (f7_of M v4 (0 : Int32)) (fun r10 => (if r10 = (x3_4 - x3_4 / (3 : Int32) * (3 : Int32)) then (f7_hasOwnParts_L4 M p1 fu (1 : Int32) (x3_4 + 1) k) else (f7_hasOwnParts_L4 M p1 fu (0 : Int32) (x3_4 + 1) k)))))))))))

def f7_hasOwnParts (M : Pic) (p1 : Int32) : Option (Int32) := (f7_hasOwnParts_L4 M p1 84 (1 : Int32) (0 : Int32) (fun x2_4 => (some x2_4)))

def f7_goodThen (M : Pic) (p1 : Int32) : Option (Int32 × Pic) := (ob1 (f7_hasOwnParts M p1) (fun r1 => (if r1 = 0 then (some ((0 : Int32), M)) else (ob1 (f7_trade M p1) (fun u5 => (ob2 (f7_isGood u5) (fun r7 u8 => (ob1 (f7_trade u8 p1) (fun u11 => (some (r7, u11)))))))))))
def f7_restore_L65 (p1 : Int32) : Nat → Int32 → Pic → (Pic → (Option (Int32 × Pic))) → Option (Int32 × Pic)
  | 0, x2_65, M_65, k => (k M_65)
  | fu + 1, x2_65, M_65, k => (if (84 : Int32) ≤ x2_65 then (k M_65) else (ck (((84 : Int32) * p1) + x2_65) 168 (ck ((89 : Int32) + x2_65) 173 (bd (pset M_65 0 (upd (M_65 0) (ix ((89 : Int32) + x2_65)) ((M_65 3) (ix (((84 : Int32) * p1) + x2_65))))) (fun Mb17 => (f7_restore_L65 p1 fu (x2_65 + 1) Mb17 k))))))

def f7_restore (M : Pic) (p1 : Int32) : Option (Int32 × Pic) := (if (f7_isSnapshot p1) = 0 then (some ((0 : Int32), (pset M 7 (fun _ => (1 : Int32))))) else (ck p1 2 (if ((M 4) (ix p1)) = (1 : Int32) then (ob2 (f7_goodThen (pset M 7 (fun _ => (0 : Int32))) p1) (fun r6 u7 => (if r6 = 0 then (some ((0 : Int32), (pset u7 7 (fun _ => (2 : Int32))))) else (ob1 (f7_save (pset u7 7 (fun _ => (0 : Int32)))) (fun u11 => (f7_restore_L65 p1 84 (0 : Int32) u11 (fun M_65 => (ob1 (f7_dishesInPlan M_65) (fun r18 => (some (r18, M_65))))))))))) else (some ((0 : Int32), (pset M 7 (fun _ => (2 : Int32))))))))
def f7_undo_L37  : Nat → Int32 → Pic → (Pic → (Option (Int32 × Pic))) → Option (Int32 × Pic)
  | 0, x1_37, M_37, k => (k M_37)
  | fu + 1, x1_37, M_37, k => (if (173 : Int32) ≤ x1_37 then (k M_37) else (ck (((173 : Int32) * ((M_37 1) 0)) + x1_37) 1038 (ck x1_37 173 (bd (pset M_37 0 (upd (M_37 0) (ix x1_37) ((M_37 2) (ix (((173 : Int32) * ((M_37 1) 0)) + x1_37))))) (fun Mb7 => (f7_undo_L37  fu (x1_37 + 1) Mb7 k))))))

def f7_undo (M : Pic) : Option (Int32 × Pic) := (if ((M 1) 0) ≤ 0 then (some ((0 : Int32), (pset M 7 (fun _ => (1 : Int32))))) else (bd (pset (pset M 1 (fun _ => (((M 1) 0) - (1 : Int32)))) 7 (fun _ => (0 : Int32))) (fun Mb2 => (f7_undo_L37  173 (0 : Int32) Mb2 (fun M_37 => (some (((M_37 1) 0), M_37)))))))

def f7_planned (M : Pic) (p1 : Int32) (p2 : Int32) : Option (Int32 × Pic) := (if (f7_isDay p1) = 0 then (some ((0 : Int32), (pset M 7 (fun _ => (1 : Int32))))) else (if (f7_isPart p2) = 0 then (some ((0 : Int32), (pset M 7 (fun _ => (1 : Int32))))) else (ob1 (f7_at (pset M 7 (fun _ => (0 : Int32))) p1 p2) (fun r7 => (some (r7, (pset M 7 (fun _ => (0 : Int32)))))))))
def f7_servings_L11 (p1 : Int32) (p2 : Int32) : Nat → Int32 → Int32 → Pic → (Int32 → Pic → (Option (Int32 × Pic))) → Option (Int32 × Pic)
  | 0, x4_11, x5_11, M_11, k => (k x4_11 M_11)
  | fu + 1, x4_11, x5_11, M_11, k => (if (84 : Int32) ≤ x5_11 then (k x4_11 M_11) else (ck ((89 : Int32) + x5_11) 173 (if ((M_11 0) (ix ((89 : Int32) + x5_11))) = p1 then (if p2 = 0 then (bd (x4_11 + (1 : Int32)) (fun v11 => (f7_servings_L11 p1 p2 fu v11 (x5_11 + 1) M_11 k))) else (ob1 (f7_isSource M_11 x5_11) (fun r12 => (if r12 = 0 then (bd (x4_11 + (0 : Int32)) (fun v16 => (f7_servings_L11 p1 p2 fu v16 (x5_11 + 1) M_11 k))) else (ck x5_11 84 (if ((M_11 9) (ix x5_11)) = 0 then (bd (x4_11 + (1 : Int32)) (fun v20 => (f7_servings_L11 p1 p2 fu v20 (x5_11 + 1) M_11 k))) else (bd (x4_11 + (0 : Int32)) (fun v19 => (f7_servings_L11 p1 p2 fu v19 (x5_11 + 1) M_11 k))))))))) else (bd (x4_11 + (0 : Int32)) (fun v9 => (f7_servings_L11 p1 p2 fu v9 (x5_11 + 1) M_11 k))))))

def f7_servings (M : Pic) (p1 : Int32) (p2 : Int32) : Option (Int32 × Pic) := (ob2 (f7_match M) (fun r1 u2 => (f7_servings_L11 p1 p2 84 (0 : Int32) (0 : Int32) u2 (fun x4_11 M_11 => (some (x4_11, M_11))))))

def f7_dishNow (M : Pic) (p1 : Int32) (p2 : Int32) : Option (Int32 × Pic) := (if p2 = 6 then (ob1 (f7_isLeftover M p1) (fun r2 => (if r2 = 0 then (some ((0 : Int32), M)) else (some ((1 : Int32), M))))) else (if p2 = 7 then (ob2 (f7_servings M p1 (0 : Int32)) (fun r7 u8 => (some (r7, u8)))) else (if p2 = 8 then (ob2 (f7_servings M p1 (1 : Int32)) (fun r11 u12 => (some (r11, u12)))) else (ob1 (f7_of M p1 p2) (fun r14 => (some (r14, M)))))))

def f7_dish (M : Pic) (p1 : Int32) (p2 : Int32) : Option (Int32 × Pic) := (if (f7_isDish M p1) = 0 then (some ((0 : Int32), (pset M 7 (fun _ => (1 : Int32))))) else (if (f7_within p2 (0 : Int32) (8 : Int32)) = 0 then (some ((0 : Int32), (pset M 7 (fun _ => (2 : Int32))))) else (ob2 (f7_dishNow (pset M 7 (fun _ => (0 : Int32))) p1 p2) (fun r7 u8 => (some (r7, u8))))))

def f7_dishesOf (M : Pic) (p1 : Int32) : Option (Int32) := (ob1 (f7_at M p1 (0 : Int32)) (fun r1 => (ob1 (f7_at M p1 (1 : Int32)) (fun r4 => (ob1 (f7_at M p1 (2 : Int32)) (fun r7 => (some (((f7_many r1) + (f7_many r4)) + (f7_many r7)))))))))
def f7_guestNow_L17 (M : Pic) (p1 : Int32) : Nat → Int32 → Int32 → (Int32 → (Option (Int32))) → Option (Int32)
  | 0, x3_17, x4_17, k => (k x3_17)
  | fu + 1, x3_17, x4_17, k => (if (28 : Int32) ≤ x4_17 then (k x3_17) else (ob1 (f7_ofGuest M p1 (0 : Int32)) (fun r4 => (if (f7_has r4 (x4_17 - x4_17 / (7 : Int32) * (7 : Int32))) = 0 then (bd (x3_17 + (0 : Int32)) (fun v9 => (f7_guestNow_L17 M p1 fu v9 (x4_17 + 1) k))) else (ob1 (f7_dishesOf M x4_17) (fun r10 => (bd (x3_17 + r10) (fun v12 => (f7_guestNow_L17 M p1 fu v12 (x4_17 + 1) k)))))))))

def f7_guestNow (M : Pic) (p1 : Int32) (p2 : Int32) : Option (Int32) := (if (2 : Int32) ≤ p2 then (f7_guestNow_L17 M p1 28 (0 : Int32) (0 : Int32) (fun x3_17 => (some x3_17))) else (ob1 (f7_ofGuest M p1 p2) (fun r13 => (some r13))))

def f7_guest (M : Pic) (p1 : Int32) (p2 : Int32) : Option (Int32 × Pic) := (if (f7_isGuest M p1) = 0 then (some ((0 : Int32), (pset M 7 (fun _ => (1 : Int32))))) else (if (f7_within p2 (0 : Int32) (2 : Int32)) = 0 then (some ((0 : Int32), (pset M 7 (fun _ => (2 : Int32))))) else (ob1 (f7_guestNow (pset M 7 (fun _ => (0 : Int32))) p1 p2) (fun r7 => (some (r7, (pset M 7 (fun _ => (0 : Int32)))))))))
def f7_guestsOn_L4 (M : Pic) (p1 : Int32) : Nat → Int32 → Int32 → (Int32 → (Option (Int32))) → Option (Int32)
  | 0, x2_4, x3_4, k => (k x2_4)
  | fu + 1, x2_4, x3_4, k => (if ((M 0) (ix (4 : Int32))) ≤ x3_4 then (k x2_4) else (ob1 (f7_ofGuest M x3_4 (0 : Int32)) (fun r3 => (bd (x2_4 + ((r3 >>> ((p1 - p1 / (7 : Int32) * (7 : Int32)) &&& 31)) &&& (1 : Int32))) (fun v5 => (f7_guestsOn_L4 M p1 fu v5 (x3_4 + 1) k))))))

def f7_guestsOn (M : Pic) (p1 : Int32) : Option (Int32) := (f7_guestsOn_L4 M p1 (fuelN (0 : Int32) ((M 0) (ix (4 : Int32)))) (0 : Int32) (0 : Int32) (fun x2_4 => (some x2_4)))

def f7_dayNow (M : Pic) (p1 : Int32) (p2 : Int32) : Option (Int32) := (if p2 = 0 then (ob1 (f7_dishesOf M p1) (fun r2 => (some r2))) else (if p2 = 1 then (ob1 (f7_costOf M p1) (fun r5 => (some r5))) else (if p2 = 2 then (ob1 (f7_joyOf M p1) (fun r8 => (some r8))) else (if p2 = 3 then (ob1 (f7_vetoed M p1) (fun r11 => (some r11))) else (ob1 (f7_guestsOn M p1) (fun r13 => (some r13)))))))

def f7_day (M : Pic) (p1 : Int32) (p2 : Int32) : Option (Int32 × Pic) := (if (f7_isDay p1) = 0 then (some ((0 : Int32), (pset M 7 (fun _ => (1 : Int32))))) else (if (f7_within p2 (0 : Int32) (4 : Int32)) = 0 then (some ((0 : Int32), (pset M 7 (fun _ => (2 : Int32))))) else (ob1 (f7_dayNow (pset M 7 (fun _ => (0 : Int32))) p1 p2) (fun r7 => (some (r7, (pset M 7 (fun _ => (0 : Int32)))))))))

def f7_sourceNow (M : Pic) (p1 : Int32) (p2 : Int32) : Option (Int32 × Pic) := (ob2 (f7_match M) (fun r1 u2 => (ck (((3 : Int32) * p1) + p2) 84 (bd ((u2 8) (ix (((3 : Int32) * p1) + p2))) (fun v6 => (if r1 = 0 then (some ((-1 : Int32), u2)) else (if v6 = (-1 : Int32) then (some ((-1 : Int32), u2)) else (some ((v6 / (3 : Int32)), u2)))))))))

def f7_source (M : Pic) (p1 : Int32) (p2 : Int32) : Option (Int32 × Pic) := (if (f7_isDay p1) = 0 then (some ((0 : Int32), (pset M 7 (fun _ => (1 : Int32))))) else (if (f7_isPart p2) = 0 then (some ((0 : Int32), (pset M 7 (fun _ => (1 : Int32))))) else (ob2 (f7_sourceNow (pset M 7 (fun _ => (0 : Int32))) p1 p2) (fun r7 u8 => (some (r7, u8))))))
def f7_sources_L10 (p1 : Int32) : Nat → Int32 → Int32 → Pic → (Int32 → Pic → (Option (Int32 × Pic))) → Option (Int32 × Pic)
  | 0, x2_10, x4_10, M_10, k => (k x2_10 M_10)
  | fu + 1, x2_10, x4_10, M_10, k => (if (84 : Int32) ≤ x4_10 then (k x2_10 M_10) else (ob1 (f7_isSource M_10 x4_10) (fun r7 => (if r7 = 0 then (bd (x2_10 + (0 : Int32)) (fun v11 => (f7_sources_L10 p1 fu v11 (x4_10 + 1) M_10 k))) else (if p1 = 0 then (bd (x2_10 + (1 : Int32)) (fun v13 => (f7_sources_L10 p1 fu v13 (x4_10 + 1) M_10 k))) else (ck x4_10 84 (if ((M_10 9) (ix x4_10)) = 0 then (bd (x2_10 + (1 : Int32)) (fun v17 => (f7_sources_L10 p1 fu v17 (x4_10 + 1) M_10 k))) else (bd (x2_10 + (0 : Int32)) (fun v16 => (f7_sources_L10 p1 fu v16 (x4_10 + 1) M_10 k))))))))))

def f7_sources (M : Pic) (p1 : Int32) : Option (Int32 × Pic) := (ob2 (f7_match M) (fun r1 u2 => (f7_sources_L10 p1 84 (0 : Int32) (0 : Int32) u2 (fun x2_10 M_10 => (some (x2_10, M_10))))))
def f7_wholeDays_L4 (M : Pic) : Nat → Int32 → Int32 → (Int32 → (Option (Int32))) → Option (Int32)
  | 0, x1_4, x2_4, k => (k x1_4)
  | fu + 1, x1_4, x2_4, k => (if (28 : Int32) ≤ x2_4 then (k x1_4) else (ob1 (f7_dishesOf M x2_4) (fun r3 => (if r3 = (3 : Int32) then (bd (x1_4 + (1 : Int32)) (fun v7 => (f7_wholeDays_L4 M fu v7 (x2_4 + 1) k))) else (bd (x1_4 + (0 : Int32)) (fun v6 => (f7_wholeDays_L4 M fu v6 (x2_4 + 1) k)))))))

def f7_wholeDays (M : Pic) : Option (Int32) := (f7_wholeDays_L4 M 28 (0 : Int32) (0 : Int32) (fun x1_4 => (some x1_4)))

def f7_costOfAll (M : Pic) : Option (Int32) := (ob1 (f7_weekCost M (0 : Int32)) (fun r1 => (ob1 (f7_weekCost M (1 : Int32)) (fun r3 => (ob1 (f7_weekCost M (2 : Int32)) (fun r5 => (ob1 (f7_weekCost M (3 : Int32)) (fun r7 => (some (((r1 + r3) + r5) + r7))))))))))

def f7_counted (M : Pic) (p1 : Int32) : Option (Int32 × Pic) := (if p1 = 0 then (some (((M 0) (ix (3 : Int32))), M)) else (if p1 = 1 then (some (((M 0) (ix (4 : Int32))), M)) else (if p1 = 2 then (ob1 (f7_dishesInPlan M) (fun r4 => (some (r4, M)))) else (if p1 = 3 then (ob1 (f7_joyOfAll M) (fun r7 => (some (r7, M)))) else (if p1 = 4 then (ob1 (f7_costOfAll M) (fun r10 => (some (r10, M)))) else (if p1 = 5 then (ob2 (f7_sources M (0 : Int32)) (fun r13 u14 => (some (r13, u14)))) else (if p1 = 6 then (ob2 (f7_sources M (1 : Int32)) (fun r17 u18 => (some (r17, u18)))) else (if p1 = 7 then (ob1 (f7_wholeDays M) (fun r21 => (some (r21, M)))) else (if p1 = 8 then (ob1 (f7_weekCost M (p1 - (8 : Int32))) (fun r24 => (some (r24, M)))) else (if p1 = 9 then (ob1 (f7_weekCost M (p1 - (8 : Int32))) (fun r27 => (some (r27, M)))) else (if p1 = 10 then (ob1 (f7_weekCost M (p1 - (8 : Int32))) (fun r30 => (some (r30, M)))) else (if p1 = 11 then (ob1 (f7_weekCost M (p1 - (8 : Int32))) (fun r33 => (some (r33, M)))) else (if p1 = 12 then (some ((((M 4) (ix (0 : Int32))) + ((M 4) (ix (1 : Int32)))), M)) else (if p1 = 13 then (some (((M 1) 0), M)) else (ob1 (f7_weekCost M (p1 - (8 : Int32))) (fun r37 => (some (r37, M))))))))))))))))))

def f7_count (M : Pic) (p1 : Int32) : Option (Int32 × Pic) := (if (f7_within p1 (0 : Int32) (13 : Int32)) = 0 then (some ((0 : Int32), (pset M 7 (fun _ => (1 : Int32))))) else (ob2 (f7_counted (pset M 7 (fun _ => (0 : Int32))) p1) (fun r4 u5 => (some (r4, u5)))))

def f7_setting (M : Pic) (p1 : Int32) : Option (Int32 × Pic) := (if (f7_isSetting p1) = 0 then (some ((0 : Int32), (pset M 7 (fun _ => (1 : Int32))))) else (ck p1 173 (some (((M 0) (ix p1)), (pset M 7 (fun _ => (0 : Int32)))))))

def f7_whyNot (M : Pic) (p1 : Int32) (p2 : Int32) (p3 : Int32) : Option (Int32 × Pic) := (if (f7_isDay p1) = 0 then (some ((0 : Int32), (pset M 7 (fun _ => (1 : Int32))))) else (if (f7_isPart p2) = 0 then (some ((0 : Int32), (pset M 7 (fun _ => (1 : Int32))))) else (if (f7_isDish M p3) = 0 then (some ((0 : Int32), (pset M 7 (fun _ => (1 : Int32))))) else (ob2 (f7_reason (pset M 7 (fun _ => (0 : Int32))) p1 p2 p3) (fun r10 u11 => (some (r10, u11)))))))

def f7_joyOn (M : Pic) (p1 : Int32) (p2 : Int32) : Option (Int32 × Pic) := (if (f7_isDay p1) = 0 then (some ((0 : Int32), (pset M 7 (fun _ => (1 : Int32))))) else (if (f7_isDish M p2) = 0 then (some ((0 : Int32), (pset M 7 (fun _ => (1 : Int32))))) else (ob1 (f7_joyNow (pset M 7 (fun _ => (0 : Int32))) p1 p2) (fun r7 => (some (r7, (pset M 7 (fun _ => (0 : Int32)))))))))

def f7_best (M : Pic) (p1 : Int32) (p2 : Int32) : Option (Int32 × Pic) := (if (f7_isDay p1) = 0 then (some ((0 : Int32), (pset M 7 (fun _ => (1 : Int32))))) else (if (f7_isPart p2) = 0 then (some ((0 : Int32), (pset M 7 (fun _ => (1 : Int32))))) else (ob2 (f7_bestFor (pset M 7 (fun _ => (0 : Int32))) p1 p2) (fun r7 u8 => (some (r7, u8))))))

def f7_gainNow (M : Pic) (p1 : Int32) (p2 : Int32) : Option (Int32 × Pic) := (ob1 (f7_joyOfAll M) (fun r1 => (ob1 (f7_of M p2 (0 : Int32)) (fun r3 => (ob1 (f7_put M p1 r3 p2) (fun u5 => (ob1 (f7_joyOfAll u5) (fun r7 => (ob1 (f7_of u5 p2 (0 : Int32)) (fun r9 => (ob1 (f7_put u5 p1 r9 (-1 : Int32)) (fun u11 => (some ((r7 - r1), u11))))))))))))))

def f7_gain (M : Pic) (p1 : Int32) (p2 : Int32) : Option (Int32 × Pic) := (if (f7_isDay p1) = 0 then (some ((0 : Int32), (pset M 7 (fun _ => (1 : Int32))))) else (if (f7_isDish M p2) = 0 then (some ((0 : Int32), (pset M 7 (fun _ => (1 : Int32))))) else (ob2 (f7_canServe (pset M 7 (fun _ => (0 : Int32))) p1 p2) (fun r7 u8 => (if r7 = 0 then (some ((0 : Int32), u8)) else (ob2 (f7_gainNow u8 p1 p2) (fun r12 u13 => (some (r12, u13)))))))))
def f7_dayFor_L7 (p1 : Int32) : Nat → Int32 → Int32 → Int32 → Pic → (Int32 → Pic → (Option (Int32 × Pic))) → Option (Int32 × Pic)
  | 0, x2_7, x3_7, x4_7, M_7, k => (k x2_7 M_7)
  | fu + 1, x2_7, x3_7, x4_7, M_7, k => (if (28 : Int32) ≤ x4_7 then (k x2_7 M_7) else (ob2 (f7_canServe M_7 x4_7 p1) (fun r3 u4 => (if r3 = 0 then (f7_dayFor_L7 p1 fu x2_7 x3_7 (x4_7 + 1) u4 k) else (ob2 (f7_gainNow u4 x4_7 p1) (fun r8 u9 => (if x2_7 = (-1 : Int32) then (f7_dayFor_L7 p1 fu x4_7 r8 (x4_7 + 1) u9 k) else (if r8 ≤ x3_7 then (f7_dayFor_L7 p1 fu x2_7 x3_7 (x4_7 + 1) u9 k) else (f7_dayFor_L7 p1 fu x4_7 r8 (x4_7 + 1) u9 k)))))))))

def f7_dayFor (M : Pic) (p1 : Int32) : Option (Int32 × Pic) := (f7_dayFor_L7 p1 28 (-1 : Int32) (0 : Int32) (0 : Int32) M (fun x2_7 M_7 => (some (x2_7, M_7))))

def f7_bestDay (M : Pic) (p1 : Int32) : Option (Int32 × Pic) := (if (f7_isDish M p1) = 0 then (some ((0 : Int32), (pset M 7 (fun _ => (1 : Int32))))) else (ob2 (f7_dayFor (pset M 7 (fun _ => (0 : Int32))) p1) (fun r4 u5 => (some (r4, u5)))))
def f4_keep_L2 (n : Nat) (f : (Nat → Int32)) (p1 : Int32) : Nat → Int32 → Pic → (Pic → Pic) → Pic
  | 0, x3_2, N_2, k => (k N_2)
  | fu + 1, x3_2, N_2, k => (if (84 : Int32) ≤ x3_2 then (k N_2) else (bd (pset N_2 0 (f6_put 168 (N_2 0) ((p1 * (84 : Int32)) + x3_2) (f6_at n f x3_2))) (fun Nb5 => (f4_keep_L2 n f p1 fu (x3_2 + 1) Nb5 k))))

def f4_keep (n : Nat) (N : Pic) (f : (Nat → Int32)) (p1 : Int32) : Pic := (f4_keep_L2 n f p1 84 (0 : Int32) N (fun N_2 => (if p1 < 0 then N_2 else (if (nI 2) ≤ p1 then N_2 else (bd (pset N_2 1 (upd (N_2 1) (ix p1) (vp_nar .boolean (1 : Int32)))) (fun Nb8 => Nb8))))))
def f4_copyTo_L2 (n : Nat) (N : Pic) (p1 : Int32) : Nat → Int32 → (Nat → Int32) → ((Nat → Int32) → (Nat → Int32)) → (Nat → Int32)
  | 0, x3_2, f_2, k => (k f_2)
  | fu + 1, x3_2, f_2, k => (if (84 : Int32) ≤ x3_2 then (k f_2) else (bd (f6_put n f_2 x3_2 (f6_at 168 (N 0) ((p1 * (84 : Int32)) + x3_2))) (fun fb5 => (f4_copyTo_L2 n N p1 fu (x3_2 + 1) fb5 k))))

def f4_copyTo (n : Nat) (N : Pic) (f : (Nat → Int32)) (p1 : Int32) : (Nat → Int32) := (f4_copyTo_L2 n N p1 84 (0 : Int32) f (fun f_2 => f_2))

def f4_isTaken (N : Pic) (p1 : Int32) : Int32 := (if p1 < 0 then (0 : Int32) else (if (nI 2) ≤ p1 then (0 : Int32) else (if ((N 1) (ix p1)) = 0 then (0 : Int32) else (1 : Int32))))
def f4_takenCount_L4 (N : Pic) : Nat → Int32 → Int32 → (Int32 → Int32) → Int32
  | 0, x1_4, x2_4, k => (k x1_4)
  | fu + 1, x1_4, x2_4, k => (if (2 : Int32) ≤ x2_4 then (k x1_4) else (bd (f4_isTaken N x2_4) (fun r3 => (if r3 = 0 then (f4_takenCount_L4 N fu x1_4 (x2_4 + 1) k) else (f4_takenCount_L4 N fu (x1_4 + 1) (x2_4 + 1) k)))))

def f4_takenCount (N : Pic) : Int32 := (f4_takenCount_L4 N 2 (0 : Int32) (0 : Int32) (fun x1_4 => x1_4))

def f0_placeOf (G : Pic) (p1 : Int32) : Option Int32 := (bd ((((G 1) 0) + p1) - (((G 1) 0) + p1) / (6 : Int32) * (6 : Int32)) (fun v1 => (if v1 < 0 then none else (if (nI 6) ≤ v1 then none else (some v1)))))

def f0_save (G : Pic) (Z : (Nat → Pic)) (S : Pic) : Pic × (Nat → Pic) := (jn (fun G_j6 => (mtq (f0_placeOf G_j6 ((G_j6 2) 0)) (G_j6, Z) (fun e1 => (bd (f5_copyFrom (Z (ix e1)) S) (fun u5 => (bd (pset G_j6 2 (fun _ => (((G_j6 2) 0) + (1 : Int32)))) (fun Gb1 => (Gb1, (va_up Z (ix e1) u5))))))))) (fun kJ6 => (if ((G 2) 0) = (6 : Int32) then (bd (pset G 1 (fun _ => ((((G 1) 0) + (1 : Int32)) - (((G 1) 0) + (1 : Int32)) / (6 : Int32) * (6 : Int32)))) (fun Gb3 => (bd (pset Gb3 2 (fun _ => (((Gb3 2) 0) - (1 : Int32)))) (fun Gb4 => (kJ6 Gb4))))) else (kJ6 G))))

def f0_bringBack (G : Pic) (Z : (Nat → Pic)) (S : Pic) : Pic × Pic := (mtq (f0_placeOf G (((G 2) 0) - (1 : Int32))) (G, S) (fun e1 => (bd (f5_copyFrom S (Z (ix e1))) (fun u5 => (bd (pset G 2 (fun _ => (((G 2) 0) - (1 : Int32)))) (fun Gb1 => (Gb1, u5)))))))

def f6_figureOfGuest (S : Pic) (p1 : Int32) (p2 : Int32) : Int32 := (if p2 = 0 then (f6_at 6 (S 8) p1) else (if p2 = 1 then (f6_at 6 (S 9) p1) else (if p2 = 2 then (bd (f5_dishesBefore S p1) (fun r6 => r6)) else (-1 : Int32))))

def f6_figureOfDay (S : Pic) (p1 : Int32) (p2 : Int32) : Int32 := (if p2 = 0 then (bd (f5_mealCount S p1) (fun r2 => r2)) else (if p2 = 1 then (bd (f5_mealCost S p1) (fun r4 => r4)) else (if p2 = 2 then (bd (f2_joyOfMeal S p1) (fun r6 => r6)) else (if p2 = 3 then (bd (f5_vetoedTastes S p1) (fun r8 => r8)) else (if p2 = 4 then (bd (f5_guestsOn S p1) (fun r10 => r10)) else (-1 : Int32))))))

def f6_figureOfDish (S : Pic) (Y : Pic) (p1 : Int32) (p2 : Int32) : Int32 × Pic := (if p2 = 0 then ((f6_at 12 (S 1) p1), Y) else (if p2 = 1 then ((f6_at 12 (S 2) p1), Y) else (if p2 = 2 then ((f6_at 12 (S 3) p1), Y) else (if p2 = 3 then ((f6_at 12 (S 4) p1), Y) else (if p2 = 4 then ((f6_at 12 (S 5) p1), Y) else (if p2 = 5 then ((f6_at 12 (S 6) p1), Y) else (if p2 = 6 then (bd (f5_isLeftover S p1) (fun r14 => (if r14 = 0 then ((0 : Int32), Y) else ((1 : Int32), Y)))) else (if p2 = 7 then (bd (f5_timesPlanned S p1) (fun r18 => (r18, Y))) else (if p2 = 8 then (bd2 (f1_wastedOf Y S p1) (fun r20 u21 => (r20, u21))) else ((-1 : Int32), Y))))))))))

def f6_figureOfAll (S : Pic) (Y : Pic) (G : Pic) (N : Pic) (p1 : Int32) : Int32 × Pic := (if p1 = 0 then (((S 0) 0), Y) else (if p1 = 1 then (((S 7) 0), Y) else (if p1 = 2 then (bd (f5_planCount S) (fun r4 => (r4, Y))) else (if p1 = 3 then (bd (f2_joyOfPlan S) (fun r6 => (r6, Y))) else (if p1 = 4 then (bd (f5_planCost S) (fun r8 => (r8, Y))) else (if p1 = 5 then (bd (f5_sourceCount S) (fun r10 => (r10, Y))) else (if p1 = 6 then (bd2 (f1_wastedOfAll Y S) (fun r12 u13 => (r12, u13))) else (if p1 = 7 then (bd (f5_wholeMeals S) (fun r15 => (r15, Y))) else (if p1 = 8 then (bd (f5_weekCost S (p1 - (8 : Int32))) (fun r17 => (r17, Y))) else (if p1 = 9 then (bd (f5_weekCost S (p1 - (8 : Int32))) (fun r19 => (r19, Y))) else (if p1 = 10 then (bd (f5_weekCost S (p1 - (8 : Int32))) (fun r21 => (r21, Y))) else (if p1 = 11 then (bd (f5_weekCost S (p1 - (8 : Int32))) (fun r23 => (r23, Y))) else (if p1 = 12 then (bd (f4_takenCount N) (fun r25 => (r25, Y))) else (if p1 = 13 then (((G 2) 0), Y) else ((-1 : Int32), Y)))))))))))))))

def f6_takeOverTrial (S : Pic) (R : Pic) (G : Pic) (Z : (Nat → Pic)) : Pic × Pic × (Nat → Pic) := (bd2 (f0_save G Z S) (fun u1 u2 => (bd (f5_copyFrom S R) (fun u3 => (u3, u1, u2)))))

def f6_canStand (R : Pic) (Y : Pic) : Int32 × Pic := (bd (f5_hasVetoedDish R) (fun r1 => (if r1 = 0 then (bd (f5_isAboveBudget R) (fun r4 => (if r4 = 0 then (bd2 (f1_areSound Y R) (fun r7 u8 => (if r7 = 0 then ((0 : Int32), u8) else ((1 : Int32), u8)))) else ((0 : Int32), Y)))) else ((0 : Int32), Y))))

def f6_servesIfItCan (S : Pic) (Y : Pic) (p1 : Int32) (p2 : Int32) : Int32 × Pic × Pic := (if (f5_hasDish S p2) = 0 then ((0 : Int32), S, Y) else (bd (f6_at 12 (S 1) p2) (fun v5 => (bd3 (f2_reasonAgainst Y S p1 v5 p2) (fun r6 u7 u8 => (if r6 = 0 then (bd (pset u8 11 (f6_put 84 (u8 11) (f6_cellOf p1 v5) p2)) (fun Sb12 => ((1 : Int32), Sb12, u7))) else ((0 : Int32), u8, u7)))))))

def f6_clear (S : Pic) (G : Pic) (Z : (Nat → Pic)) : Int32 × Pic × Pic × (Nat → Pic) := (bd (f5_planCount S) (fun r1 => (bd2 (f0_save G Z S) (fun u2 u3 => (bd (pset S 11 (fJ7_fill_53178 84 (S 11) (-1 : Int32))) (fun Sb5 => (r1, Sb5, u2, u3)))))))

def f6_clearBuffer (T : Pic) : Int32 × Pic := (bd ((T 1) 0) (fun v1 => (bd (f3_makeEmpty T) (fun u2 => (v1, u2)))))

def f6_firstError (T : Pic) : Int32 := (bd (f3_errorIndex T) (fun r1 => r1))

def f6_planned (S : Pic) (p1 : Int32) (p2 : Int32) : Int32 × Int32 := (if (f6_isDay p1) = 0 then ((1 : Int32), (0 : Int32)) else (if (f6_isPart p2) = 0 then ((1 : Int32), (0 : Int32)) else ((0 : Int32), (f6_at 84 (S 11) (f6_cellOf p1 p2)))))

def f6_setting (S : Pic) (p1 : Int32) : Int32 × Int32 := (if (f6_isWithin p1 (0 : Int32) (2 : Int32)) = 0 then ((1 : Int32), (0 : Int32)) else ((0 : Int32), (f6_at 3 (S 10) p1)))

def f6_guest (S : Pic) (p1 : Int32) (p2 : Int32) : Int32 × Int32 := (if (f5_hasGuest S p1) = 0 then ((1 : Int32), (0 : Int32)) else (if (f6_isWithin p2 (0 : Int32) (2 : Int32)) = 0 then ((2 : Int32), (0 : Int32)) else (bd (f6_figureOfGuest S p1 p2) (fun r7 => ((0 : Int32), r7)))))

def f6_addDish (S : Pic) (G : Pic) (Z : (Nat → Pic)) (p1 : Int32) (p2 : Int32) (p3 : Int32) (p4 : Int32) : Int32 × Int32 × Pic × Pic × (Nat → Pic) := (if (f6_isWithin p1 (0 : Int32) (2 : Int32)) = 0 then ((2 : Int32), (0 : Int32), S, G, Z) else (if (f6_isWithin p2 (0 : Int32) (30 : Int32)) = 0 then ((2 : Int32), (0 : Int32), S, G, Z) else (if (f6_isWithin p3 (0 : Int32) (5 : Int32)) = 0 then ((2 : Int32), (0 : Int32), S, G, Z) else (if (f6_isWithin p4 (1 : Int32) (9 : Int32)) = 0 then ((2 : Int32), (0 : Int32), S, G, Z) else (if ((S 0) 0) < (12 : Int32) then (bd2 (f0_save G Z S) (fun u14 u15 => (bd2 (f5_newDish S p1 p2 p3 p4) (fun r16 u17 => ((0 : Int32), r16, u17, u14, u15))))) else ((3 : Int32), (0 : Int32), S, G, Z))))))

def f6_addGuest (S : Pic) (G : Pic) (Z : (Nat → Pic)) : Int32 × Int32 × Pic × Pic × (Nat → Pic) := (if ((S 7) 0) < (6 : Int32) then (bd2 (f0_save G Z S) (fun u2 u3 => (bd2 (f5_newGuest S) (fun r4 u5 => ((0 : Int32), r4, u5, u2, u3))))) else ((3 : Int32), (0 : Int32), S, G, Z))

def f6_append (T : Pic) (p1 : Int32) : Int32 × Int32 × Pic := (if (f6_isWithin p1 (33 : Int32) (126 : Int32)) = 0 then ((2 : Int32), (0 : Int32), T) else (if ((T 1) 0) < (60 : Int32) then (bd (f3_addCode T p1) (fun u5 => ((0 : Int32), ((u5 1) 0), u5))) else ((3 : Int32), (0 : Int32), T)))

def f6_undo (S : Pic) (G : Pic) (Z : (Nat → Pic)) : Int32 × Int32 × Pic × Pic := (if ((G 2) 0) = 0 then ((3 : Int32), (0 : Int32), S, G) else (bd2 (f0_bringBack G Z S) (fun u2 u3 => ((0 : Int32), ((u2 2) 0), u3, u2))))

def f6_take (S : Pic) (N : Pic) (p1 : Int32) : Int32 × Int32 × Pic := (if (f6_isWithin p1 (0 : Int32) (1 : Int32)) = 0 then ((1 : Int32), (0 : Int32), N) else (bd (f4_keep 84 N (S 11) p1) (fun u4 => (bd (f5_planCount S) (fun r5 => ((0 : Int32), r5, u4))))))

def f6_day (S : Pic) (p1 : Int32) (p2 : Int32) : Int32 × Int32 := (if (f6_isDay p1) = 0 then ((1 : Int32), (0 : Int32)) else (if (f6_isWithin p2 (0 : Int32) (4 : Int32)) = 0 then ((2 : Int32), (0 : Int32)) else (bd (f6_figureOfDay S p1 p2) (fun r7 => ((0 : Int32), r7)))))

def f6_joyOn (S : Pic) (p1 : Int32) (p2 : Int32) : Int32 × Int32 := (if (f6_isDay p1) = 0 then ((1 : Int32), (0 : Int32)) else (if (f5_hasDish S p2) = 0 then ((1 : Int32), (0 : Int32)) else (bd (f2_joyOfDish S p1 p2) (fun r7 => ((0 : Int32), r7)))))

def f6_dish (S : Pic) (Y : Pic) (p1 : Int32) (p2 : Int32) : Int32 × Int32 × Pic := (if (f5_hasDish S p1) = 0 then ((1 : Int32), (0 : Int32), Y) else (if (f6_isWithin p2 (0 : Int32) (8 : Int32)) = 0 then ((2 : Int32), (0 : Int32), Y) else (bd2 (f6_figureOfDish S Y p1 p2) (fun r7 u8 => ((0 : Int32), r7, u8)))))

def f6_source (S : Pic) (Y : Pic) (p1 : Int32) (p2 : Int32) : Int32 × Int32 × Pic := (if (f6_isDay p1) = 0 then ((1 : Int32), (0 : Int32), Y) else (if (f6_isPart p2) = 0 then ((1 : Int32), (0 : Int32), Y) else (bd2 (f1_sourceDay Y S (f6_cellOf p1 p2)) (fun r8 u9 => ((0 : Int32), r8, u9)))))

def f6_count (S : Pic) (Y : Pic) (G : Pic) (N : Pic) (p1 : Int32) : Int32 × Int32 × Pic := (if (f6_isWithin p1 (0 : Int32) (13 : Int32)) = 0 then ((2 : Int32), (0 : Int32), Y) else (bd2 (f6_figureOfAll S Y G N p1) (fun r4 u5 => ((0 : Int32), r4, u5))))

def f6_leave (S : Pic) (R : Pic) (Y : Pic) (G : Pic) (Z : (Nat → Pic)) (p1 : Int32) (p2 : Int32) (p3 : Int32) : Int32 × Int32 × Pic × Pic × Pic × Pic × (Nat → Pic) := (if (f5_hasDish S p1) = 0 then ((1 : Int32), (0 : Int32), S, R, Y, G, Z) else (if p2 = (-1 : Int32) then (if p1 = p2 then ((2 : Int32), (0 : Int32), S, R, Y, G, Z) else (bd (f5_copyFrom R S) (fun u6 => (bd (pset u6 5 (f6_put 12 (u6 5) p1 p2)) (fun Rb8 => (bd (pset Rb8 6 (f6_put 12 (Rb8 6) p1 (0 : Int32))) (fun Rb10 => (bd2 (f1_areSound Y Rb10) (fun r11 u12 => (if r11 = 0 then ((3 : Int32), (0 : Int32), S, Rb10, u12, G, Z) else (bd (f6_at 12 (S 5) p1) (fun v16 => (bd3 (f6_takeOverTrial S Rb10 G Z) (fun u17 u18 u19 => ((0 : Int32), v16, u17, Rb10, u12, u18, u19))))))))))))))) else (if (f5_hasDish S p2) = 0 then ((1 : Int32), (0 : Int32), S, R, Y, G, Z) else (if p1 = p2 then ((2 : Int32), (0 : Int32), S, R, Y, G, Z) else (if (f6_isWithin p3 (1 : Int32) (6 : Int32)) = 0 then ((2 : Int32), (0 : Int32), S, R, Y, G, Z) else (bd (f5_copyFrom R S) (fun u27 => (bd (pset u27 5 (f6_put 12 (u27 5) p1 p2)) (fun Rb29 => (bd (pset Rb29 6 (f6_put 12 (Rb29 6) p1 p3)) (fun Rb31 => (bd2 (f1_areSound Y Rb31) (fun r32 u33 => (if r32 = 0 then ((3 : Int32), (0 : Int32), S, Rb31, u33, G, Z) else (bd (f6_at 12 (S 5) p1) (fun v37 => (bd3 (f6_takeOverTrial S Rb31 G Z) (fun u38 u39 u40 => ((0 : Int32), v37, u38, Rb31, u33, u39, u40)))))))))))))))))))

def f6_come (S : Pic) (R : Pic) (G : Pic) (Z : (Nat → Pic)) (p1 : Int32) (p2 : Int32) : Int32 × Int32 × Pic × Pic × Pic × (Nat → Pic) := (if (f5_hasGuest S p1) = 0 then ((1 : Int32), (0 : Int32), S, R, G, Z) else (if (f6_isWithin p2 (0 : Int32) (127 : Int32)) = 0 then ((2 : Int32), (0 : Int32), S, R, G, Z) else (bd (f5_copyFrom R S) (fun u7 => (bd (pset u7 8 (f6_put 6 (u7 8) p1 p2)) (fun Rb9 => (bd (f5_hasVetoedDish Rb9) (fun r10 => (if r10 = 0 then (bd (f6_at 6 (S 8) p1) (fun v14 => (bd3 (f6_takeOverTrial S Rb9 G Z) (fun u15 u16 u17 => ((0 : Int32), v14, u15, Rb9, u16, u17))))) else ((3 : Int32), (0 : Int32), S, Rb9, G, Z))))))))))

def f6_veto (S : Pic) (R : Pic) (G : Pic) (Z : (Nat → Pic)) (p1 : Int32) (p2 : Int32) : Int32 × Int32 × Pic × Pic × Pic × (Nat → Pic) := (if (f5_hasGuest S p1) = 0 then ((1 : Int32), (0 : Int32), S, R, G, Z) else (if (f6_isWithin p2 (0 : Int32) (63 : Int32)) = 0 then ((2 : Int32), (0 : Int32), S, R, G, Z) else (bd (f5_copyFrom R S) (fun u7 => (bd (pset u7 9 (f6_put 6 (u7 9) p1 p2)) (fun Rb9 => (bd (f5_hasVetoedDish Rb9) (fun r10 => (if r10 = 0 then (bd (f6_at 6 (S 9) p1) (fun v14 => (bd3 (f6_takeOverTrial S Rb9 G Z) (fun u15 u16 u17 => ((0 : Int32), v14, u15, Rb9, u16, u17))))) else ((3 : Int32), (0 : Int32), S, Rb9, G, Z))))))))))

def f6_set (S : Pic) (R : Pic) (G : Pic) (Z : (Nat → Pic)) (p1 : Int32) (p2 : Int32) : Int32 × Int32 × Pic × Pic × Pic × (Nat → Pic) := (if (f6_isWithin p1 (0 : Int32) (2 : Int32)) = 0 then ((1 : Int32), (0 : Int32), S, R, G, Z) else (if (f6_isWithin p2 (f6_leastValue p1) (f6_greatestValue p1)) = 0 then ((2 : Int32), (0 : Int32), S, R, G, Z) else (bd (f5_copyFrom R S) (fun u9 => (bd (pset u9 10 (f6_put 3 (u9 10) p1 p2)) (fun Rb11 => (bd (f5_isAboveBudget Rb11) (fun r12 => (if r12 = 0 then (bd (f6_at 3 (S 10) p1) (fun v16 => (bd3 (f6_takeOverTrial S Rb11 G Z) (fun u17 u18 u19 => ((0 : Int32), v16, u17, Rb11, u18, u19))))) else ((3 : Int32), (0 : Int32), S, Rb11, G, Z))))))))))

def f6_serve (S : Pic) (Y : Pic) (G : Pic) (Z : (Nat → Pic)) (p1 : Int32) (p2 : Int32) : Int32 × Int32 × Pic × Pic × Pic × (Nat → Pic) := (if (f6_isDay p1) = 0 then ((1 : Int32), (0 : Int32), S, Y, G, Z) else (if (f5_hasDish S p2) = 0 then ((1 : Int32), (0 : Int32), S, Y, G, Z) else (bd (f6_at 12 (S 1) p2) (fun v8 => (bd3 (f2_reasonAgainst Y S p1 v8 p2) (fun r9 u10 u11 => (if r9 = 0 then (bd2 (f0_save G Z u11) (fun u13 u14 => (bd (pset u11 11 (f6_put 84 (u11 11) (f6_cellOf p1 v8) p2)) (fun Sb17 => (bd (f2_joyOfDish Sb17 p1 p2) (fun r18 => ((0 : Int32), r18, Sb17, u10, u13, u14))))))) else ((3 : Int32), (0 : Int32), u11, u10, G, Z))))))))

def f6_drop (S : Pic) (R : Pic) (Y : Pic) (G : Pic) (Z : (Nat → Pic)) (p1 : Int32) (p2 : Int32) : Int32 × Int32 × Pic × Pic × Pic × Pic × (Nat → Pic) := (if (f6_isDay p1) = 0 then ((1 : Int32), (0 : Int32), S, R, Y, G, Z) else (if (f6_isPart p2) = 0 then ((1 : Int32), (0 : Int32), S, R, Y, G, Z) else (bd (f6_cellOf p1 p2) (fun v8 => (bd (f6_at 84 (S 11) v8) (fun v10 => (if v10 = (-1 : Int32) then ((3 : Int32), (0 : Int32), S, R, Y, G, Z) else (bd (f5_copyFrom R S) (fun u12 => (bd (pset u12 11 (f6_put 84 (u12 11) v8 (-1 : Int32))) (fun Rb14 => (bd2 (f1_areSound Y Rb14) (fun r15 u16 => (if r15 = 0 then ((3 : Int32), (0 : Int32), S, Rb14, u16, G, Z) else (bd3 (f6_takeOverTrial S Rb14 G Z) (fun u19 u20 u21 => ((0 : Int32), v10, u19, Rb14, u16, u20, u21)))))))))))))))))

def f6_exchange (S : Pic) (R : Pic) (Y : Pic) (G : Pic) (Z : (Nat → Pic)) (p1 : Int32) (p2 : Int32) : Int32 × Int32 × Pic × Pic × Pic × Pic × (Nat → Pic) := (if (f6_isDay p1) = 0 then ((1 : Int32), (0 : Int32), S, R, Y, G, Z) else (if (f6_isDay p2) = 0 then ((1 : Int32), (0 : Int32), S, R, Y, G, Z) else (bd (f5_copyFrom R S) (fun u7 => (bd (f5_exchangeMeals u7 p1 p2) (fun u8 => (bd2 (f6_canStand u8 Y) (fun r9 u10 => (if r9 = 0 then ((3 : Int32), (0 : Int32), S, u8, u10, G, Z) else (bd3 (f6_takeOverTrial S u8 G Z) (fun u13 u14 u15 => (bd (f2_joyOfPlan u13) (fun r16 => ((0 : Int32), r16, u13, u8, u10, u14, u15))))))))))))))

def f6_restore (S : Pic) (R : Pic) (Y : Pic) (G : Pic) (Z : (Nat → Pic)) (N : Pic) (p1 : Int32) : Int32 × Int32 × Pic × Pic × Pic × Pic × (Nat → Pic) := (if (f6_isWithin p1 (0 : Int32) (1 : Int32)) = 0 then ((1 : Int32), (0 : Int32), S, R, Y, G, Z) else (bd (f4_isTaken N p1) (fun r4 => (if r4 = 0 then ((3 : Int32), (0 : Int32), S, R, Y, G, Z) else (bd (f5_copyFrom R S) (fun u7 => (bd (f4_copyTo 84 N (u7 11) p1) (fun u8 => (bd (f5_hasStrangeDish (pset u7 11 u8)) (fun r9 => (if r9 = 0 then (bd2 (f6_canStand (pset u7 11 u8) Y) (fun r12 u13 => (if r12 = 0 then ((3 : Int32), (0 : Int32), S, (pset u7 11 u8), u13, G, Z) else (bd3 (f6_takeOverTrial S (pset u7 11 u8) G Z) (fun u16 u17 u18 => (bd (f5_planCount u16) (fun r19 => ((0 : Int32), r19, u16, (pset u7 11 u8), u13, u17, u18)))))))) else ((3 : Int32), (0 : Int32), S, (pset u7 11 u8), Y, G, Z))))))))))))
def f6_fill_L32 (p1 : Int32) : Nat → Int32 → Int32 → Pic → Pic → Pic → (Nat → Pic) → (Int32 → Pic → Pic → Pic → (Nat → Pic) → (Option (Int32 × Int32 × Pic × Pic × Pic × (Nat → Pic)))) → Option (Int32 × Int32 × Pic × Pic × Pic × (Nat → Pic))
  | 0, x2_32, x3_32, S_32, Y_32, G_32, Z_32, k => (k x2_32 S_32 Y_32 G_32 Z_32)
  | fu + 1, x2_32, x3_32, S_32, Y_32, G_32, Z_32, k => (if (3 : Int32) ≤ x3_32 then (k x2_32 S_32 Y_32 G_32 Z_32) else (ob3 (f2_bestDish Y_32 S_32 p1 x3_32) (fun r8 u9 u10 => (if r8 = (-1 : Int32) then (f6_fill_L32 p1 fu x2_32 (x3_32 + 1) u10 u9 G_32 Z_32 k) else (bd (pset u10 11 (f6_put 84 (u10 11) (f6_cellOf p1 x3_32) r8)) (fun Sb15 => (f6_fill_L32 p1 fu (x2_32 + 1) (x3_32 + 1) Sb15 u9 G_32 Z_32 k)))))))

def f6_fill (S : Pic) (Y : Pic) (G : Pic) (Z : (Nat → Pic)) (p1 : Int32) : Option (Int32 × Int32 × Pic × Pic × Pic × (Nat → Pic)) := (if (f6_isDay p1) = 0 then (some ((1 : Int32), (0 : Int32), S, Y, G, Z)) else (bd2 (f0_save G Z S) (fun u4 u5 => (f6_fill_L32 p1 3 (0 : Int32) (0 : Int32) S Y u4 u5 (fun x2_32 S_32 Y_32 G_32 Z_32 => (some ((0 : Int32), x2_32, S_32, Y_32, G_32, Z_32)))))))
def f6_read_L46 (r6 : Int32) : Nat → Int32 → Int32 → Int32 → Pic → Pic → Pic → (Nat → Pic) → Pic → (Int32 → Pic → Pic → Pic → (Nat → Pic) → Pic → (Int32 × Int32 × Pic × Pic × Pic × (Nat → Pic) × Pic)) → Int32 × Int32 × Pic × Pic × Pic × (Nat → Pic) × Pic
  | 0, x1_46, x3_46, x4_46, S_46, Y_46, G_46, Z_46, T_46, k => (k x1_46 S_46 Y_46 G_46 Z_46 T_46)
  | fu + 1, x1_46, x3_46, x4_46, S_46, Y_46, G_46, Z_46, T_46, k => (if r6 ≤ x4_46 then (k x1_46 S_46 Y_46 G_46 Z_46 T_46) else (if x3_46 = 0 then (k x1_46 S_46 Y_46 G_46 Z_46 T_46) else (bd (f3_startOf T_46 x4_46) (fun r10 => (bd (f3_dayFrom T_46 r10) (fun r11 => (bd (f3_dishFrom T_46 r10) (fun r12 => (bd3 (f6_servesIfItCan S_46 Y_46 r11 r12) (fun r13 u14 u15 => (if r13 = 0 then (f6_read_L46 r6 fu x1_46 r13 (x4_46 + 1) u14 u15 G_46 Z_46 T_46 k) else (f6_read_L46 r6 fu (x1_46 + 1) r13 (x4_46 + 1) u14 u15 G_46 Z_46 T_46 k))))))))))))

def f6_read (S : Pic) (Y : Pic) (G : Pic) (Z : (Nat → Pic)) (T : Pic) : Int32 × Int32 × Pic × Pic × Pic × (Nat → Pic) × Pic := (bd (f3_isComplete T) (fun r1 => (if r1 = 0 then ((2 : Int32), (0 : Int32), S, Y, G, Z, T) else (bd2 (f0_save G Z S) (fun u4 u5 => (bd (f3_entryCount T) (fun r6 => (f6_read_L46 r6 (fuelN (0 : Int32) r6) (0 : Int32) (1 : Int32) (0 : Int32) S Y u4 u5 T (fun x1_46 S_46 Y_46 G_46 Z_46 T_46 => (bd (f3_makeEmpty T_46) (fun u18 => ((0 : Int32), x1_46, S_46, Y_46, G_46, Z_46, u18))))))))))))

def f6_whyNot (S : Pic) (Y : Pic) (p1 : Int32) (p2 : Int32) (p3 : Int32) : Int32 × Int32 × Pic × Pic := (if (f6_isDay p1) = 0 then ((1 : Int32), (0 : Int32), S, Y) else (if (f6_isPart p2) = 0 then ((1 : Int32), (0 : Int32), S, Y) else (if (f5_hasDish S p3) = 0 then ((1 : Int32), (0 : Int32), S, Y) else (bd3 (f2_reasonAgainst Y S p1 p2 p3) (fun r10 u11 u12 => ((0 : Int32), r10, u12, u11))))))

def f6_best (S : Pic) (Y : Pic) (p1 : Int32) (p2 : Int32) : Option (Int32 × Int32 × Pic × Pic) := (if (f6_isDay p1) = 0 then (some ((1 : Int32), (0 : Int32), S, Y)) else (if (f6_isPart p2) = 0 then (some ((1 : Int32), (0 : Int32), S, Y)) else (ob3 (f2_bestDish Y S p1 p2) (fun r7 u8 u9 => (some ((0 : Int32), r7, u9, u8))))))

def f6_gain (S : Pic) (Y : Pic) (p1 : Int32) (p2 : Int32) : Int32 × Int32 × Pic × Pic := (if (f6_isDay p1) = 0 then ((1 : Int32), (0 : Int32), S, Y) else (if (f5_hasDish S p2) = 0 then ((1 : Int32), (0 : Int32), S, Y) else (bd3 (f2_reasonAgainst Y S p1 (f6_at 12 (S 1) p2) p2) (fun r8 u9 u10 => (if r8 = 0 then (bd (f2_growth u10 p1 p2) (fun r12 => ((0 : Int32), r12, u10, u9))) else ((0 : Int32), (0 : Int32), u10, u9))))))

def f6_bestDay (S : Pic) (Y : Pic) (p1 : Int32) : Int32 × Int32 × Pic × Pic := (if (f5_hasDish S p1) = 0 then ((1 : Int32), (0 : Int32), S, Y) else (bd3 (f2_bestDayOf Y S p1) (fun r4 u5 u6 => ((0 : Int32), r4, u6, u5))))

def fJxe99ae_isNaN_b9ae7 (p1 : UInt64) : Int32 := (if (Op.cmpValue (FP.dcmp p1 p1) CmpOp.l) = 0 then (0 : Int32) else (1 : Int32))

def fJxe99ae_doubleToLongBits_ccdee (p1 : UInt64) : Int64 := (bd (fJxe99ae_isNaN_b9ae7 p1) (fun r1 => (if r1 = 0 then ((p1).toInt64) else (9221120237041090560 : Int64))))

def f7_used (M : Pic) : Option (UInt64 × Pic) := (ob2 (f7_sources M (0 : Int32)) (fun r1 u2 => (if r1 = 0 then (some (FP.dconst1, u2)) else (ob2 (f7_sources u2 (1 : Int32)) (fun r5 u6 => (ckn (FP.ddiv (FP.i2d (r1 - r5)) (FP.i2d r1)) (some ((FP.ddiv (FP.i2d (r1 - r5)) (FP.i2d r1)), u6))))))))

def f7_usedShare (M : Pic) : Option (UInt64 × Pic) := (ob2 (f7_used (pset M 7 (fun _ => (0 : Int32)))) (fun r1 u2 => (some (r1, u2))))

def f7_mix (hs : Int64) (p1 : Int64) : Int64 := (((31 : Int64) * hs) + p1)
def f7_mixDay_L2 (M : Pic) (p1 : Int32) : Nat → Int32 → Int64 → (Int64 → (Option (Pic × Int64))) → Option (Pic × Int64)
  | 0, x2_2, hs_2, k => (k hs_2)
  | fu + 1, x2_2, hs_2, k => (if (5 : Int32) ≤ x2_2 then (k hs_2) else (ob1 (f7_dayNow M p1 x2_2) (fun r3 => (bd (f7_mix hs_2 ((r3).toInt64)) (fun u5 => (f7_mixDay_L2 M p1 fu (x2_2 + 1) u5 k))))))

def f7_mixDay_L26 (p1 : Int32) : Nat → Int32 → Pic → Int64 → (Pic → Int64 → (Option (Pic × Int64))) → Option (Pic × Int64)
  | 0, x2_26, M_26, hs_26, k => (k M_26 hs_26)
  | fu + 1, x2_26, M_26, hs_26, k => (if (3 : Int32) ≤ x2_26 then (k M_26 hs_26) else (ob1 (f7_at M_26 p1 x2_26) (fun r8 => (bd (f7_mix hs_26 ((r8).toInt64)) (fun u10 => (ob2 (f7_sourceNow M_26 p1 x2_26) (fun r11 u12 => (bd (f7_mix u10 ((r11).toInt64)) (fun u14 => (ob2 (f7_bestFor u12 p1 x2_26) (fun r15 u16 => (bd (f7_mix u14 ((r15).toInt64)) (fun u18 => (f7_mixDay_L26 p1 fu (x2_26 + 1) u16 u18 k))))))))))))))

def f7_mixDay (M : Pic) (hs : Int64) (p1 : Int32) : Option (Pic × Int64) := (f7_mixDay_L2 M p1 5 (0 : Int32) hs (fun hs_2 => (f7_mixDay_L26 p1 3 (0 : Int32) M hs_2 (fun M_26 hs_26 => (some (M_26, hs_26))))))
def f7_digest_L14  : Nat → Int32 → Pic → Int64 → (Pic → Int64 → (Option (Int64 × Pic × Int64))) → Option (Int64 × Pic × Int64)
  | 0, x1_14, M_14, hs_14, k => (k M_14 hs_14)
  | fu + 1, x1_14, M_14, hs_14, k => (if (14 : Int32) ≤ x1_14 then (k M_14 hs_14) else (ob2 (f7_counted M_14 x1_14) (fun r3 u4 => (bd (f7_mix hs_14 ((r3).toInt64)) (fun u6 => (f7_digest_L14  fu (x1_14 + 1) u4 u6 k))))))

def f7_digest_L38 (M_14 : Pic) : Nat → Int32 → Int64 → (Int64 → (Option (Int64 × Pic × Int64))) → Option (Int64 × Pic × Int64)
  | 0, x1_38, hs_38, k => (k hs_38)
  | fu + 1, x1_38, hs_38, k => (if (3 : Int32) ≤ x1_38 then (k hs_38) else (ck x1_38 173 (bd (f7_mix hs_38 ((((M_14 0) (ix x1_38))).toInt64)) (fun u10 => (f7_digest_L38 M_14 fu (x1_38 + 1) u10 k)))))

def f7_digest_L74 (x1_62 : Int32) : Nat → Int32 → Pic → Int64 → (Pic → Int64 → (Option (Int64 × Pic × Int64))) → Option (Int64 × Pic × Int64)
  | 0, x2_74, M_74, hs_74, k => (k M_74 hs_74)
  | fu + 1, x2_74, M_74, hs_74, k => (if (9 : Int32) ≤ x2_74 then (k M_74 hs_74) else (ob2 (f7_dishNow M_74 x1_62 x2_74) (fun r14 u15 => (bd (f7_mix hs_74 ((r14).toInt64)) (fun u17 => (f7_digest_L74 x1_62 fu (x2_74 + 1) u15 u17 k))))))

def f7_digest_L62  : Nat → Int32 → Pic → Int64 → (Pic → Int64 → (Option (Int64 × Pic × Int64))) → Option (Int64 × Pic × Int64)
  | 0, x1_62, M_62, hs_62, k => none
  | fu + 1, x1_62, M_62, hs_62, k => (if ((M_62 0) (ix (3 : Int32))) ≤ x1_62 then (k M_62 hs_62) else (f7_digest_L74 x1_62 9 (0 : Int32) M_62 hs_62 (fun M_74 hs_74 => (ob2 (f7_dayFor M_74 x1_62) (fun r18 u19 => (bd (f7_mix hs_74 ((r18).toInt64)) (fun u21 => (f7_digest_L62  fu (x1_62 + 1) u19 u21 k))))))))

def f7_digest_L115 (M_62 : Pic) : Nat → Int32 → Int64 → (Int64 → (Option (Int64 × Pic × Int64))) → Option (Int64 × Pic × Int64)
  | 0, x1_115, hs_115, k => (k hs_115)
  | fu + 1, x1_115, hs_115, k => (if ((3 : Int32) * ((M_62 0) (ix (4 : Int32)))) ≤ x1_115 then (k hs_115) else (ob1 (f7_guestNow M_62 (x1_115 / (3 : Int32)) (x1_115 - x1_115 / (3 : Int32) * (3 : Int32))) (fun r24 => (bd (f7_mix hs_115 ((r24).toInt64)) (fun u26 => (f7_digest_L115 M_62 fu (x1_115 + 1) u26 k))))))

def f7_digest_L150  : Nat → Int32 → Pic → Int64 → (Pic → Int64 → (Option (Int64 × Pic × Int64))) → Option (Int64 × Pic × Int64)
  | 0, x1_150, M_150, hs_150, k => (k M_150 hs_150)
  | fu + 1, x1_150, M_150, hs_150, k => (if (28 : Int32) ≤ x1_150 then (k M_150 hs_150) else (ob2 (f7_mixDay M_150 hs_150 x1_150) (fun u29 u30 => (f7_digest_L150  fu (x1_150 + 1) u29 u30 k))))

def f7_digest_L189 (u33 : Pic) : Nat → Int32 → Int64 → (Int64 → (Option (Int64 × Pic × Int64))) → Option (Int64 × Pic × Int64)
  | 0, x1_189, hs_189, k => (k hs_189)
  | fu + 1, x1_189, hs_189, k => (if ((u33 5) 0) ≤ x1_189 then (k hs_189) else (ck x1_189 60 (bd (f7_mix hs_189 ((((u33 6) (ix x1_189))).toInt64)) (fun u41 => (f7_digest_L189 u33 fu (x1_189 + 1) u41 k)))))

def f7_digest (M : Pic) (hs : Int64) : Option (Int64 × Pic × Int64) := (f7_digest_L14  14 (0 : Int32) (pset M 7 (fun _ => (0 : Int32))) (2531 : Int64) (fun M_14 hs_14 => (f7_digest_L38 M_14 3 (0 : Int32) hs_14 (fun hs_38 => (f7_digest_L62  13 (0 : Int32) M_14 hs_38 (fun M_62 hs_62 => (f7_digest_L115 M_62 (fuelN (0 : Int32) ((3 : Int32) * ((M_62 0) (ix (4 : Int32))))) (0 : Int32) hs_62 (fun hs_115 => (f7_digest_L150  28 (0 : Int32) M_62 hs_115 (fun M_150 hs_150 => (ob2 (f7_used M_150) (fun r32 u33 => (bd (fJxe99ae_doubleToLongBits_ccdee r32) (fun r35 => (bd (f7_mix hs_150 r35) (fun u36 => (bd (f7_mix u36 ((((u33 5) 0)).toInt64)) (fun u37 => (f7_digest_L189 u33 (fuelN (0 : Int32) ((u33 5) 0)) (0 : Int32) u37 (fun hs_189 => (some (hs_189, u33, hs_189))))))))))))))))))))))
def f6_bitsOfShare_L18  : Nat → UInt64 → Int64 → Int32 → (UInt64 → Int64 → (Option (Int64))) → Option (Int64)
  | 0, x2_18, x4_18, x6_18, k => (k x2_18 x4_18)
  | fu + 1, x2_18, x4_18, x6_18, k => (if (60 : Int32) ≤ x6_18 then (k x2_18 x4_18) else (if 0 ≤ (Op.cmpValue (FP.dcmp x2_18 FP.dconst1) CmpOp.g) then (k x2_18 x4_18) else (ckn (FP.dmul x2_18 (4611686018427387904 : UInt64)) (bd (FP.dmul x2_18 (4611686018427387904 : UInt64)) (fun v6 => (bd (x4_18 - (1 : Int64)) (fun v7 => (f6_bitsOfShare_L18  fu v6 v7 (x6_18 + 1) k))))))))

def f6_bitsOfShare (p1 : UInt64) : Option (Int64) := (if 0 < (Op.cmpValue (FP.dcmp p1 FP.dconst0) CmpOp.g) then (f6_bitsOfShare_L18  60 p1 (1023 : Int64) (0 : Int32) (fun x2_18 x4_18 => (ckn (FP.dsub x2_18 FP.dconst1) (ckn (FP.dmul (FP.dsub x2_18 FP.dconst1) (4841369599423283200 : UInt64)) (some ((x4_18 <<< ((52 : Int32).toInt64 &&& 63)) ||| (FP.d2l (FP.dmul (FP.dsub x2_18 FP.dconst1) (4841369599423283200 : UInt64))))))))) else (some (0 : Int64)))

def f6_usedShare (S : Pic) (Y : Pic) : Option (UInt64 × Pic) := (bd (f5_sourceCount S) (fun r1 => (if 0 < r1 then (bd2 (f1_wastedOfAll Y S) (fun r3 u4 => (bd (r1 - r3) (fun v5 => (ckn (FP.ddiv (FP.i2d v5) (FP.i2d r1)) (some ((FP.ddiv (FP.i2d v5) (FP.i2d r1)), u4))))))) else (some (FP.dconst1, Y)))))
def f6_digest_L6 (S : Pic) (G : Pic) (N : Pic) : Nat → Int64 → Int32 → Pic → (Int64 → Pic → (Option (Int64 × Pic × Pic))) → Option (Int64 × Pic × Pic)
  | 0, x1_6, x3_6, Y_6, k => none
  | fu + 1, x1_6, x3_6, Y_6, k => (if (13 : Int32) < x3_6 then (k x1_6 Y_6) else (bd2 (f6_figureOfAll S Y_6 G N x3_6) (fun r2 u3 => (bd (((31 : Int64) * x1_6) + (r2).toInt64) (fun v4 => (f6_digest_L6 S G N fu v4 (x3_6 + 1) u3 k))))))

def f6_digest_L33 (S : Pic) : Nat → Int64 → Int32 → (Int64 → (Option (Int64 × Pic × Pic))) → Option (Int64 × Pic × Pic)
  | 0, x1_33, x3_33, k => (k x1_33)
  | fu + 1, x1_33, x3_33, k => (if (3 : Int32) ≤ x3_33 then (k x1_33) else (bd (((31 : Int64) * x1_33) + ((f6_at 3 (S 10) x3_33)).toInt64) (fun v8 => (f6_digest_L33 S fu v8 (x3_33 + 1) k))))

def f6_digest_L79 (x3_65 : Int32) (S_65 : Pic) : Nat → Int64 → Int32 → Pic → (Int64 → Pic → (Option (Int64 × Pic × Pic))) → Option (Int64 × Pic × Pic)
  | 0, x1_79, x4_79, Y_79, k => none
  | fu + 1, x1_79, x4_79, Y_79, k => (if (8 : Int32) < x4_79 then (k x1_79 Y_79) else (bd2 (f6_figureOfDish S_65 Y_79 x3_65 x4_79) (fun r11 u12 => (bd (((31 : Int64) * x1_79) + (r11).toInt64) (fun v13 => (f6_digest_L79 x3_65 S_65 fu v13 (x4_79 + 1) u12 k))))))

def f6_digest_L65  : Nat → Int64 → Int32 → Pic → Pic → (Int64 → Pic → Pic → (Option (Int64 × Pic × Pic))) → Option (Int64 × Pic × Pic)
  | 0, x1_65, x3_65, S_65, Y_65, k => none
  | fu + 1, x1_65, x3_65, S_65, Y_65, k => (if ((S_65 0) 0) ≤ x3_65 then (k x1_65 S_65 Y_65) else (f6_digest_L79 x3_65 S_65 10 x1_65 (0 : Int32) Y_65 (fun x1_79 Y_79 => (bd3 (f2_bestDayOf Y_79 S_65 x3_65) (fun r14 u15 u16 => (bd (((31 : Int64) * x1_79) + (r14).toInt64) (fun v17 => (f6_digest_L65  fu v17 (x3_65 + 1) u16 u15 k))))))))

def f6_digest_L145 (S_65 : Pic) (x3_131 : Int32) : Nat → Int64 → Int32 → (Int64 → (Option (Int64 × Pic × Pic))) → Option (Int64 × Pic × Pic)
  | 0, x1_145, x4_145, k => none
  | fu + 1, x1_145, x4_145, k => (if (2 : Int32) < x4_145 then (k x1_145) else (bd (f6_figureOfGuest S_65 x3_131 x4_145) (fun r21 => (bd (((31 : Int64) * x1_145) + (r21).toInt64) (fun v22 => (f6_digest_L145 S_65 x3_131 fu v22 (x4_145 + 1) k))))))

def f6_digest_L131 (S_65 : Pic) : Nat → Int64 → Int32 → (Int64 → (Option (Int64 × Pic × Pic))) → Option (Int64 × Pic × Pic)
  | 0, x1_131, x3_131, k => (k x1_131)
  | fu + 1, x1_131, x3_131, k => (if ((S_65 7) 0) ≤ x3_131 then (k x1_131) else (f6_digest_L145 S_65 x3_131 4 x1_131 (0 : Int32) (fun x1_145 => (f6_digest_L131 S_65 fu x1_145 (x3_131 + 1) k))))

def f6_digest_L189 (x3_180 : Int32) (S_180 : Pic) : Nat → Int64 → Int32 → (Int64 → (Option (Int64 × Pic × Pic))) → Option (Int64 × Pic × Pic)
  | 0, x1_189, x4_189, k => none
  | fu + 1, x1_189, x4_189, k => (if (4 : Int32) < x4_189 then (k x1_189) else (bd (f6_figureOfDay S_180 x3_180 x4_189) (fun r26 => (bd (((31 : Int64) * x1_189) + (r26).toInt64) (fun v27 => (f6_digest_L189 x3_180 S_180 fu v27 (x4_189 + 1) k))))))

def f6_digest_L219 (x3_180 : Int32) : Nat → Int64 → Int32 → Pic → Pic → (Int64 → Pic → Pic → (Option (Int64 × Pic × Pic))) → Option (Int64 × Pic × Pic)
  | 0, x1_219, x4_219, S_219, Y_219, k => (k x1_219 S_219 Y_219)
  | fu + 1, x1_219, x4_219, S_219, Y_219, k => (if (3 : Int32) ≤ x4_219 then (k x1_219 S_219 Y_219) else (bd (((31 : Int64) * x1_219) + ((f6_at 84 (S_219 11) (f6_cellOf x3_180 x4_219))).toInt64) (fun v32 => (bd2 (f1_sourceDay Y_219 S_219 (f6_cellOf x3_180 x4_219)) (fun r34 u35 => (bd (((31 : Int64) * v32) + (r34).toInt64) (fun v36 => (ob3 (f2_bestDish u35 S_219 x3_180 x4_219) (fun r37 u38 u39 => (bd (((31 : Int64) * v36) + (r37).toInt64) (fun v41 => (f6_digest_L219 x3_180 fu v41 (x4_219 + 1) u39 u38 k))))))))))))

def f6_digest_L180  : Nat → Int64 → Int32 → Pic → Pic → (Int64 → Pic → Pic → (Option (Int64 × Pic × Pic))) → Option (Int64 × Pic × Pic)
  | 0, x1_180, x3_180, S_180, Y_180, k => (k x1_180 S_180 Y_180)
  | fu + 1, x1_180, x3_180, S_180, Y_180, k => (if (28 : Int32) ≤ x3_180 then (k x1_180 S_180 Y_180) else (f6_digest_L189 x3_180 S_180 6 x1_180 (0 : Int32) (fun x1_189 => (f6_digest_L219 x3_180 3 x1_189 (0 : Int32) S_180 Y_180 (fun x1_219 S_219 Y_219 => (f6_digest_L180  fu x1_219 (x3_180 + 1) S_219 Y_219 k))))))

def f6_digest_L335 (T : Pic) : Nat → Int64 → Int32 → (Int64 → (Option (Int64 × Pic × Pic))) → Option (Int64 × Pic × Pic)
  | 0, x1_335, x3_335, k => (k x1_335)
  | fu + 1, x1_335, x3_335, k => (if ((T 1) 0) ≤ x3_335 then (k x1_335) else (bd (((31 : Int64) * x1_335) + ((f6_at 60 (T 0) x3_335)).toInt64) (fun v52 => (f6_digest_L335 T fu v52 (x3_335 + 1) k))))

def f6_digest (S : Pic) (Y : Pic) (G : Pic) (N : Pic) (T : Pic) : Option (Int64 × Pic × Pic) := (f6_digest_L6 S G N 15 (2531 : Int64) (0 : Int32) Y (fun x1_6 Y_6 => (f6_digest_L33 S 3 x1_6 (0 : Int32) (fun x1_33 => (f6_digest_L65  13 x1_33 (0 : Int32) S Y_6 (fun x1_65 S_65 Y_65 => (f6_digest_L131 S_65 (fuelN (0 : Int32) ((S_65 7) 0)) x1_65 (0 : Int32) (fun x1_131 => (f6_digest_L180  28 x1_131 (0 : Int32) S_65 Y_65 (fun x1_180 S_180 Y_180 => (ob2 (f6_usedShare S_180 Y_180) (fun r42 u43 => (ob1 (f6_bitsOfShare r42) (fun r45 => (bd (((31 : Int64) * x1_180) + r45) (fun v47 => (bd (((31 : Int64) * v47) + (((T 1) 0)).toInt64) (fun v48 => (f6_digest_L335 T (fuelN (0 : Int32) ((T 1) 0)) v48 (0 : Int32) (fun x1_335 => (some (x1_335, S_180, u43))))))))))))))))))))))
