def fX9_takenOf_b144 (rc54 : St → Int32 → Int32 → Int32 → Int64 → Int32 → Option (Int64 × St)) (rc75 : St → Int32 → Int32 → Int32 → Int64 → Int32 → Int64 → Int32 → Int32 → Option (Int64 × St)) (σ : St) (x1 : Int32) (x3 : Int32) (x4 : Int32) (x5 : Int64) (x7 : Int32) (x8 : Int64) (x10 : Int32) (x11 : Int32) : Option (Int64 × St) :=
  rc75 σ x1 x3 x4 x5 x7 x8 x10 (x11 + (1 : Int32))
def fX9_takenOf_b75 (rc54 : St → Int32 → Int32 → Int32 → Int64 → Int32 → Option (Int64 × St)) (rc75 : St → Int32 → Int32 → Int32 → Int64 → Int32 → Int64 → Int32 → Int32 → Option (Int64 × St)) (σ : St) (x1 : Int32) (x3 : Int32) (x4 : Int32) (x5 : Int64) (x7 : Int32) (x8 : Int64) (x10 : Int32) (x11 : Int32) : Option (Int64 × St) :=
  if (σ.2.1 0) ≤ x11 then Option.bind (fX9_yesOf σ) fun q2 => rc54 q2.2 x1 x3 x4 (x5 + (x8 * q2.1.toInt64)) (x7 + (1 : Int32)) else if ((((x3 >>> (x11 &&& 31))) &&& (1 : Int32))) = (1 : Int32) then Option.bind (fX9_quarters σ x11 ((x10 - x10 / (3 : Int32) * (3 : Int32)))) fun q5 => if ib x1 6 = true then Option.bind (fX9_markOf q5.2 x11 x1 (q5.2.1 5 x1.toNatClampNeg) ((x10 - x10 / (3 : Int32) * (3 : Int32)))) fun q8 => if ib q8.1 6 = true then if ib q8.1 6 = true then fX9_takenOf_b144 rc54 rc75 (uA q8.2 15 q8.1.toNatClampNeg (((q8.2.1 15 q8.1.toNatClampNeg) + (1 : Int32)))) x1 x3 x4 x5 x7 (x8 * q5.1.toInt64) (x10 / (3 : Int32)) x11 else none else none else none else fX9_takenOf_b144 rc54 rc75 σ x1 x3 x4 x5 x7 x8 x10 x11
def fX9_takenOf_l75 (rc54 : St → Int32 → Int32 → Int32 → Int64 → Int32 → Option (Int64 × St)) : Nat → St → Int32 → Int32 → Int32 → Int64 → Int32 → Int64 → Int32 → Int32 → Option (Int64 × St)
  | 0 => fun _ _ _ _ _ _ _ _ _ => none
  | n + 1 => fun σ x1 x3 x4 x5 x7 x8 x10 x11 => fX9_takenOf_b75 rc54 (fX9_takenOf_l75 rc54 n) σ x1 x3 x4 x5 x7 x8 x10 x11 
def fX9_takenOf_b54 (rc54 : St → Int32 → Int32 → Int32 → Int64 → Int32 → Option (Int64 × St)) (σ : St) (x1 : Int32) (x3 : Int32) (x4 : Int32) (x5 : Int64) (x7 : Int32) : Option (Int64 × St) :=
  if x4 ≤ x7 then some (x5, σ) else Option.bind (fX9_clearGiven σ) fun q2 => fX9_takenOf_l75 rc54 gF q2.2 x1 x3 x4 x5 x7 (1 : Int64) x7 (0 : Int32)
def fX9_takenOf_l54 : Nat → St → Int32 → Int32 → Int32 → Int64 → Int32 → Option (Int64 × St)
  | 0 => fun _ _ _ _ _ _ => none
  | n + 1 => fun σ x1 x3 x4 x5 x7 => fX9_takenOf_b54 (fX9_takenOf_l54 n) σ x1 x3 x4 x5 x7 
def fX9_takenOf_b39 (rc13 : St → Int32 → Int32 → Int32 → Int32 → Option (Int64 × St)) (σ : St) (x1 : Int32) (x3 : Int32) (x5 : Int32) (t0 : Int32) (t1 : Int32) : Option (Int64 × St) :=
  rc13 σ x1 x3 (t0 * t1) (x5 + (1 : Int32))
def fX9_takenOf_b13 (rc13 : St → Int32 → Int32 → Int32 → Int32 → Option (Int64 × St)) (σ : St) (x1 : Int32) (x3 : Int32) (x4 : Int32) (x5 : Int32) : Option (Int64 × St) :=
  if (σ.2.1 0) ≤ x5 then fX9_takenOf_l54 gF σ x1 x3 x4 (0 : Int64) (0 : Int32) else if ((((x3 >>> (x5 &&& 31))) &&& (1 : Int32))) = (1 : Int32) then fX9_takenOf_b39 rc13 σ x1 x3 x5 x4 (3 : Int32) else fX9_takenOf_b39 rc13 σ x1 x3 x5 x4 (1 : Int32)
def fX9_takenOf_l13 : Nat → St → Int32 → Int32 → Int32 → Int32 → Option (Int64 × St)
  | 0 => fun _ _ _ _ _ => none
  | n + 1 => fun σ x1 x3 x4 x5 => fX9_takenOf_b13 (fX9_takenOf_l13 n) σ x1 x3 x4 x5 
def fX9_takenOf (σ : St) (x1 : Int32) (x2 : Int32) : Option (Int64 × St) :=
  Option.bind (fX9_without σ x1 x2) fun q1 => fX9_takenOf_l13 gF q1.2 x1 q1.1 (1 : Int32) (0 : Int32)
def fX9_ones_b4 (rc4 : St → Int32 → Int32 → Int32 → Option (Int32 × St)) (σ : St) (x0 : Int32) (x1 : Int32) (x2 : Int32) : Option (Int32 × St) :=
  if (6 : Int32) ≤ x2 then some (x1, σ) else rc4 σ x0 (x1 + ((((x0 >>> (x2 &&& 31))) &&& (1 : Int32)))) (x2 + (1 : Int32))
def fX9_ones_l4 : Nat → St → Int32 → Int32 → Int32 → Option (Int32 × St)
  | 0 => fun _ _ _ _ => none
  | n + 1 => fun σ x0 x1 x2 => fX9_ones_b4 (fX9_ones_l4 n) σ x0 x1 x2 
def fX9_ones (σ : St) (x0 : Int32) : Option (Int32 × St) :=
  fX9_ones_l4 gF σ x0 (0 : Int32) (0 : Int32)
def fX9_power_b5 (rc5 : St → Int64 → Int32 → Int64 → Int32 → Option (Int64 × St)) (σ : St) (x0 : Int64) (x2 : Int32) (x3 : Int64) (x5 : Int32) : Option (Int64 × St) :=
  if x2 ≤ x5 then some (x3, σ) else rc5 σ x0 x2 (x3 * x0) (x5 + (1 : Int32))
def fX9_power_l5 : Nat → St → Int64 → Int32 → Int64 → Int32 → Option (Int64 × St)
  | 0 => fun _ _ _ _ _ => none
  | n + 1 => fun σ x0 x2 x3 x5 => fX9_power_b5 (fX9_power_l5 n) σ x0 x2 x3 x5 
def fX9_power (σ : St) (x0 : Int64) (x2 : Int32) : Option (Int64 × St) :=
  fX9_power_l5 gF σ x0 x2 (1 : Int64) (0 : Int32)
def fX9_allOf (σ : St) (x1 : Int32) (x2 : Int32) : Option (Int64 × St) :=
  Option.bind (fX9_without σ x1 x2) fun q1 => Option.bind (fX9_ones q1.2 q1.1) fun q3 => Option.bind (fX9_power q3.2 (4 : Int64) ((q3.1 + (1 : Int32)))) fun q5 => some (q5.1, q5.2)
def fX9_lowest_b17 (rc17 : St → Int64 → Int64 → Int32 → Int64 → Int64 → Option (Int64 × St)) (σ : St) (x0 : Int64) (x2 : Int64) (x4 : Int32) (x5 : Int64) (x7 : Int64) : Option (Int64 × St) :=
  if ((lg_cmp x7 (0 : Int64))) = 0 then if x4 = 0 then if ¬ x5 = 0 then some ((x0 / x5), σ) else none else if ¬ x5 = 0 then some ((x2 / x5), σ) else none else if ¬ x7 = 0 then rc17 σ x0 x2 x4 x7 (x5 - x5 / x7 * x7) else none
def fX9_lowest_l17 : Nat → St → Int64 → Int64 → Int32 → Int64 → Int64 → Option (Int64 × St)
  | 0 => fun _ _ _ _ _ _ => none
  | n + 1 => fun σ x0 x2 x4 x5 x7 => fX9_lowest_b17 (fX9_lowest_l17 n) σ x0 x2 x4 x5 x7 
def fX9_lowest_b12 (σ : St) (x0 : Int64) (x2 : Int64) (x4 : Int32) (t0 : Int64) : Option (Int64 × St) :=
  fX9_lowest_l17 gF σ x0 x2 x4 t0 x2
def fX9_lowest (σ : St) (x0 : Int64) (x2 : Int64) (x4 : Int32) : Option (Int64 × St) :=
  if 0 ≤ ((lg_cmp x0 (0 : Int64))) then fX9_lowest_b12 σ x0 x2 x4 x0 else fX9_lowest_b12 σ x0 x2 x4 (-x0)
def fX9_taken (σ : St) (x1 : Int32) (x2 : Int32) (x3 : Int32) : Option (Int64 × St) :=
  Option.bind (fX9_isPaper σ x1) fun q1 => if q1.1 = 0 then some ((-1000000000000000001 : Int64), q1.2) else Option.bind (fX9_isSet q1.2 x2) fun q4 => if q4.1 = 0 then some ((-1000000000000000002 : Int64), q4.2) else Option.bind (fX9_isPart q4.2 x3) fun q7 => if q7.1 = 0 then some ((-1000000000000000002 : Int64), q7.2) else if (q7.2.2.1 3) = 0 then some ((-1000000000000000003 : Int64), q7.2) else Option.bind (fX9_takenOf q7.2 x1 x2) fun q11 => Option.bind (fX9_allOf q11.2 x1 x2) fun q13 => Option.bind (fX9_lowest q13.2 q11.1 q13.1 x3) fun q15 => some (q15.1, q15.2)
def fX9_lot (σ : St) (x1 : Int32) (x2 : Int32) (x3 : Int32) (x4 : Int32) : Option (Int64 × St) :=
  Option.bind (fX9_isPaper σ x1) fun q1 => if q1.1 = 0 then some ((-1000000000000000001 : Int64), q1.2) else Option.bind (fX9_isSet q1.2 x2) fun q4 => if q4.1 = 0 then some ((-1000000000000000002 : Int64), q4.2) else Option.bind (fX9_isSet q4.2 x3) fun q7 => if q7.1 = 0 then some ((-1000000000000000002 : Int64), q7.2) else Option.bind (fX9_isPart q7.2 x4) fun q10 => if q10.1 = 0 then some ((-1000000000000000002 : Int64), q10.2) else if (q10.2.2.1 3) = 0 then some ((-1000000000000000003 : Int64), q10.2) else Option.bind (fX9_takenOf q10.2 x1 x2) fun q14 => Option.bind (fX9_takenOf q14.2 x1 x3) fun q16 => Option.bind (fX9_allOf q16.2 x1 x2) fun q18 => Option.bind (fX9_allOf q18.2 x1 x3) fun q20 => Option.bind (fX9_lowest q20.2 ((((q14.1 * (q20.1 - q16.1))) + ((q16.1 * (q18.1 - q14.1))))) (q18.1 * q20.1) x4) fun q22 => some (q22.1, q22.2)
def fX9_rightOf_b65 (rc15 : St → Int32 → Int32 → Int64 → Int64 → Int32 → Option (Int64 × St)) (σ : St) (x1 : Int32) (x2 : Int32) (x3 : Int64) (x7 : Int32) (t0 : Int64) (t1 : Int64) : Option (Int64 × St) :=
  rc15 σ x1 x2 x3 (t0 + t1) (x7 + (1 : Int32))
def fX9_rightOf_b15 (rc15 : St → Int32 → Int32 → Int64 → Int64 → Int32 → Option (Int64 × St)) (σ : St) (x1 : Int32) (x2 : Int32) (x3 : Int64) (x5 : Int64) (x7 : Int32) : Option (Int64 × St) :=
  if (σ.2.1 1) ≤ x7 then some (x5, σ) else Option.bind (fX9_takenOf σ x7 x2) fun q2 => Option.bind (fX9_allOf q2.2 x7 x2) fun q4 => if ¬ q4.1 = 0 then if ib x7 6 = true then if (q4.2.1 5 x7.toNatClampNeg) < x1 then fX9_rightOf_b65 rc15 q4.2 x1 x2 x3 x7 x5 (x3 - ((q2.1 * (x3 / q4.1)))) else fX9_rightOf_b65 rc15 q4.2 x1 x2 x3 x7 x5 (q2.1 * (x3 / q4.1)) else none else none
def fX9_rightOf_l15 : Nat → St → Int32 → Int32 → Int64 → Int64 → Int32 → Option (Int64 × St)
  | 0 => fun _ _ _ _ _ _ => none
  | n + 1 => fun σ x1 x2 x3 x5 x7 => fX9_rightOf_b15 (fX9_rightOf_l15 n) σ x1 x2 x3 x5 x7 
def fX9_rightOf (σ : St) (x1 : Int32) (x2 : Int32) : Option (Int64 × St) :=
  Option.bind (fX9_power σ (4 : Int64) (7 : Int32)) fun q1 => fX9_rightOf_l15 gF q1.2 x1 x2 q1.1 (0 : Int64) (0 : Int32)
def fX9_right (σ : St) (x1 : Int32) (x2 : Int32) (x3 : Int32) : Option (Int64 × St) :=
  Option.bind (fX9_in σ x1.toInt64 (1 : Int64) (5 : Int64)) fun q1 => if q1.1 = 0 then some ((-1000000000000000002 : Int64), q1.2) else Option.bind (fX9_isSet q1.2 x2) fun q4 => if q4.1 = 0 then some ((-1000000000000000002 : Int64), q4.2) else Option.bind (fX9_isPart q4.2 x3) fun q7 => if q7.1 = 0 then some ((-1000000000000000002 : Int64), q7.2) else if (q7.2.2.1 3) = 0 then some ((-1000000000000000003 : Int64), q7.2) else Option.bind (fX9_rightOf q7.2 x1 x2) fun q11 => Option.bind (fX9_power q11.2 (4 : Int64) (7 : Int32)) fun q13 => Option.bind (fX9_lowest q13.2 q11.1 q13.1 x3) fun q15 => some (q15.1, q15.2)
def fX9_more (σ : St) (x1 : Int32) (x2 : Int32) (x3 : Int32) (x4 : Int32) : Option (Int64 × St) :=
  Option.bind (fX9_isJudge σ x1) fun q1 => if q1.1 = 0 then some ((-1000000000000000001 : Int64), q1.2) else Option.bind (fX9_in q1.2 x2.toInt64 (1 : Int64) (5 : Int64)) fun q4 => if q4.1 = 0 then some ((-1000000000000000002 : Int64), q4.2) else Option.bind (fX9_isSet q4.2 x3) fun q7 => if q7.1 = 0 then some ((-1000000000000000002 : Int64), q7.2) else if ((((x3 >>> (x1 &&& 31))) &&& (1 : Int32))) = (1 : Int32) then some ((-1000000000000000002 : Int64), q7.2) else Option.bind (fX9_isPart q7.2 x4) fun q11 => if q11.1 = 0 then some ((-1000000000000000002 : Int64), q11.2) else if (q11.2.2.1 3) = 0 then some ((-1000000000000000003 : Int64), q11.2) else Option.bind (fX9_rightOf q11.2 x2 ((x3 ||| (((1 : Int32) <<< (x1 &&& 31)))))) fun q15 => Option.bind (fX9_rightOf q15.2 x2 x3) fun q17 => Option.bind (fX9_power q17.2 (4 : Int64) (7 : Int32)) fun q19 => Option.bind (fX9_lowest q19.2 (q15.1 - q17.1) q19.1 x4) fun q21 => some (q21.1, q21.2)
def fX9_rounds_b121 (rc121 : St → Int32 → Int32 → Int32 → Int32 → Int64 → Int64 → Int64 → Int32 → Option (Int64 × St)) (σ : St) (x1 : Int32) (x2 : Int32) (x3 : Int32) (x5 : Int32) (x6 : Int64) (x8 : Int64) (x10 : Int64) (x12 : Int32) : Option (Int64 × St) :=
  if x3 ≤ x12 then Option.bind (fX9_without σ x1 x2) fun q2 => Option.bind (fX9_ones q2.2 q2.1) fun q4 => Option.bind (fX9_power q4.2 x6 ((x3 - (1 : Int32)))) fun q6 => Option.bind (fX9_lowest q6.2 (x10 * q4.1.toInt64) q6.1 x5) fun q8 => some (q8.1, q8.2) else Option.bind (fX9_power σ x8 x12) fun q10 => Option.bind (fX9_power q10.2 x6 ((((x3 - (1 : Int32))) - x12))) fun q12 => rc121 q12.2 x1 x2 x3 x5 x6 x8 (x10 + (q10.1 * q12.1)) (x12 + (1 : Int32))
def fX9_rounds_l121 : Nat → St → Int32 → Int32 → Int32 → Int32 → Int64 → Int64 → Int64 → Int32 → Option (Int64 × St)
  | 0 => fun _ _ _ _ _ _ _ _ _ => none
  | n + 1 => fun σ x1 x2 x3 x5 x6 x8 x10 x12 => fX9_rounds_b121 (fX9_rounds_l121 n) σ x1 x2 x3 x5 x6 x8 x10 x12 
def fX9_rounds (σ : St) (x1 : Int32) (x2 : Int32) (x3 : Int32) (x4 : Int32) (x5 : Int32) : Option (Int64 × St) :=
  Option.bind (fX9_isPaper σ x1) fun q1 => if q1.1 = 0 then some ((-1000000000000000001 : Int64), q1.2) else Option.bind (fX9_isSet q1.2 x2) fun q4 => if q4.1 = 0 then some ((-1000000000000000002 : Int64), q4.2) else Option.bind (fX9_in q4.2 x3.toInt64 (1 : Int64) (4 : Int64)) fun q7 => if q7.1 = 0 then some ((-1000000000000000002 : Int64), q7.2) else Option.bind (fX9_in q7.2 x4.toInt64 (0 : Int64) (1 : Int64)) fun q10 => if q10.1 = 0 then some ((-1000000000000000002 : Int64), q10.2) else Option.bind (fX9_isPart q10.2 x5) fun q13 => if q13.1 = 0 then some ((-1000000000000000002 : Int64), q13.2) else if (q13.2.2.1 3) = 0 then some ((-1000000000000000003 : Int64), q13.2) else Option.bind (fX9_allOf q13.2 x1 x2) fun q17 => Option.bind (fX9_takenOf q17.2 x1 x2) fun q19 => if x4 = 0 then Option.bind (fX9_power q19.2 q17.1 x3) fun q22 => Option.bind (fX9_power q22.2 (q17.1 - q19.1) x3) fun q24 => Option.bind (fX9_power q24.2 q17.1 x3) fun q26 => Option.bind (fX9_lowest q26.2 (q22.1 - q24.1) q26.1 x5) fun q28 => some (q28.1, q28.2) else fX9_rounds_l121 gF q19.2 x1 x2 x3 x5 q17.1 (q17.1 - q19.1) (0 : Int64) (0 : Int32)
