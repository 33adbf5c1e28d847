def fX7_fromBelow_9_b4 (rc4 : St → Int32 → Int32 → Int32 → Option (Int32 × St)) (σ : St) (x1 : Int32) (x2 : Int32) (x3 : Int32) : Option (Int32 × St) :=
  if (5 : Int32) ≤ x3 then some ((5 : Int32), σ) else if ib x3 6 = true then if ((x2 + (σ.1 26 x3.toNatClampNeg))) ≤ x1 then rc4 σ x1 (x2 + (σ.1 26 x3.toNatClampNeg)) (x3 + (1 : Int32)) else some (x3, σ) else none
def fX7_fromBelow_9_l4 : Nat → St → Int32 → Int32 → Int32 → Option (Int32 × St)
  | 0 => fun _ _ _ _ => none
  | n + 1 => fun σ x1 x2 x3 => fX7_fromBelow_9_b4 (fX7_fromBelow_9_l4 n) σ x1 x2 x3 
def fX7_fromBelow_9 (σ : St) (x1 : Int32) : Option (Int32 × St) :=
  fX7_fromBelow_9_l4 gF σ x1 (0 : Int32) (0 : Int32)
def fX7_tenths_9 (σ : St) (x1 : Int32) : Option (Int32 × St) :=
  if x1 = (97 : Int32) then if (σ.2.1 6) ≤ 0 then some ((0 : Int32), σ) else if ¬ (σ.2.1 6) = 0 then some (((((10 : Int32) * (σ.2.1 7))) / (σ.2.1 6)), σ) else none else if x1 = (108 : Int32) then Option.bind (fX7_fromBelow_9 σ (0 : Int32)) fun q5 => some (((10 : Int32) * q5.1), q5.2) else if x1 = (109 : Int32) then Option.bind (fX7_fromBelow_9 σ (((((σ.2.1 6) - (1 : Int32))) / (2 : Int32)))) fun q8 => some (((10 : Int32) * q8.1), q8.2) else Option.bind (fX7_fromBelow_9 σ (((σ.2.1 6) - (1 : Int32)))) fun q10 => some (((10 : Int32) * q10.1), q10.2)
def fX5_quarters_9_b11 (rc11 : St → Int32 → Option (Int32 × St)) (σ : St) (x2 : Int32) : Option (Int32 × St) :=
  if (σ.2.1 3) ≤ x2 then some ((0 : Int32), σ) else if ib x2 10 = true then Option.bind (fX7_tenths_9 σ (σ.1 22 x2.toNatClampNeg)) fun q3 => if ib x2 10 = true then if q3.1 ≤ (q3.2.1 23 x2.toNatClampNeg) then rc11 q3.2 (x2 + (1 : Int32)) else if ib x2 10 = true then some ((q3.2.1 24 x2.toNatClampNeg), q3.2) else none else none else none
def fX5_quarters_9_l11 : Nat → St → Int32 → Option (Int32 × St)
  | 0 => fun _ _ => none
  | n + 1 => fun σ x2 => fX5_quarters_9_b11 (fX5_quarters_9_l11 n) σ x2 
def fX5_quarters_9 (σ : St) : Option (Int32 × St) :=
  if 0 < (σ.2.1 6) then fX5_quarters_9_l11 gF σ (0 : Int32) else some ((0 : Int32), σ)
def fX3_waysFrom_b105 (slf : St → Int32 → Int32 → Option (Int64 × St)) (rc45 : St → Int32 → Int32 → Int64 → Int32 → Option (Int64 × St)) (σ : St) (x1 : Int32) (x2 : Int32) (x3 : Int64) (x5 : Int32) : Option (Int64 × St) :=
  rc45 σ x1 x2 x3 (x5 + (1 : Int32))
def fX3_waysFrom_b45 (slf : St → Int32 → Int32 → Option (Int64 × St)) (rc45 : St → Int32 → Int32 → Int64 → Int32 → Option (Int64 × St)) (σ : St) (x1 : Int32) (x2 : Int32) (x3 : Int64) (x5 : Int32) : Option (Int64 × St) :=
  if (5 : Int32) < x5 then some (x3, σ) else if ib ((((x1 * (6 : Int32))) + x5)) 36 = true then if ((σ.1 25 ((((x1 * (6 : Int32))) + x5)).toNatClampNeg)) ≤ 0 then fX3_waysFrom_b105 slf rc45 σ x1 x2 x3 x5 else Option.bind (fX7_put_9 σ x5 (1 : Int32)) fun q4 => Option.bind (slf q4.2 ((x1 + (1 : Int32))) x2) fun q6 => Option.bind (fX7_put_9 q6.2 x5 (-1 : Int32)) fun q8 => fX3_waysFrom_b105 slf rc45 q8.2 x1 x2 (x3 + (((((σ.1 25 ((((x1 * (6 : Int32))) + x5)).toNatClampNeg)).toInt64) * q6.1))) x5 else none
def fX3_waysFrom_l45 (slf : St → Int32 → Int32 → Option (Int64 × St)) : Nat → St → Int32 → Int32 → Int64 → Int32 → Option (Int64 × St)
  | 0 => fun _ _ _ _ _ => none
  | n + 1 => fun σ x1 x2 x3 x5 => fX3_waysFrom_b45 slf (fX3_waysFrom_l45 slf n) σ x1 x2 x3 x5 
def fX3_waysFrom_f (slf : St → Int32 → Int32 → Option (Int64 × St)) (σ : St) (x1 : Int32) (x2 : Int32) : Option (Int64 × St) :=
  if x1 < (6 : Int32) then Option.bind (fX8_hasBit σ x2 x1) fun q2 => if q2.1 = 0 then Option.bind (slf q2.2 ((x1 + (1 : Int32))) x2) fun q5 => some (((4 : Int64) * q5.1), q5.2) else fX3_waysFrom_l45 slf gF q2.2 x1 x2 (0 : Int64) (0 : Int32) else Option.bind (fX5_quarters_9 σ) fun q7 => some (q7.1.toInt64, q7.2)
def fX3_waysFrom_n : Nat → St → Int32 → Int32 → Option (Int64 × St)
  | 0 => fun _ _ _ => none
  | d + 1 => fX3_waysFrom_f (fX3_waysFrom_n d)
def fX3_waysFrom : St → Int32 → Int32 → Option (Int64 × St) := fX3_waysFrom_n 8
def fX3_waysTaken (σ : St) (x1 : Int32) (x2 : Int32) : Option (Int64 × St) :=
  Option.bind (fX7_clear_9 σ) fun q1 => Option.bind (fX3_layOutWays q1.2 x1) fun q3 => Option.bind (fX4_withoutWriter q3.2 x1 x2) fun q5 => Option.bind (fX3_waysFrom q5.2 (0 : Int32) q5.1) fun q7 => some (q7.1, q7.2)
def fX8_greatestDivisor_b3 (rc3 : St → Int64 → Int64 → Int32 → Option (Int64 × St)) (σ : St) (x0 : Int64) (x2 : Int64) (x4 : Int32) : Option (Int64 × St) :=
  if (100 : Int32) ≤ x4 then some (x0, σ) else if ((lg_cmp x2 (0 : Int64))) = 0 then some (x0, σ) else if ¬ x2 = 0 then rc3 σ x2 (x0 - x0 / x2 * x2) (x4 + (1 : Int32)) else none
def fX8_greatestDivisor_l3 : Nat → St → Int64 → Int64 → Int32 → Option (Int64 × St)
  | 0 => fun _ _ _ _ => none
  | n + 1 => fun σ x0 x2 x4 => fX8_greatestDivisor_b3 (fX8_greatestDivisor_l3 n) σ x0 x2 x4 
def fX8_greatestDivisor (σ : St) (x0 : Int64) (x2 : Int64) : Option (Int64 × St) :=
  fX8_greatestDivisor_l3 gF σ x0 x2 (0 : Int32)
def fX8_tell_b29 (σ : St) (x4 : Int32) : Option (Int64 × St) :=
  if x4 = 0 then some ((0 : Int64), σ) else some ((1 : Int64), σ)
def fX8_tell (σ : St) (x0 : Int64) (x2 : Int64) (x4 : Int32) : Option (Int64 × St) :=
  Option.bind (fX8_greatestDivisor σ (if 0 < x0 then x0 else -x0) x2) fun q1 => if ((lg_cmp x0 (0 : Int64))) = 0 then fX8_tell_b29 q1.2 x4 else if ((lg_cmp x2 (0 : Int64))) = 0 then fX8_tell_b29 q1.2 x4 else if ((lg_cmp q1.1 (0 : Int64))) = 0 then fX8_tell_b29 q1.2 x4 else if x4 = 0 then if ¬ q1.1 = 0 then some ((x0 / q1.1), q1.2) else none else if ¬ q1.1 = 0 then some ((x2 / q1.1), q1.2) else none
def fX8_areJudges (σ : St) (x1 : Int32) : Option (Int32 × St) :=
  Option.bind (fX8_within σ x1 (0 : Int32) (((((1 : Int32) <<< ((σ.2.1 0) &&& 31))) - (1 : Int32)))) fun q1 => if q1.1 = 0 ∨ q1.1 = 1 then some (q1.1, q1.2) else none
def fX8_isPart (σ : St) (x0 : Int32) : Option (Int32 × St) :=
  Option.bind (fX8_within σ x0 (0 : Int32) (1 : Int32)) fun q1 => if q1.1 = 0 ∨ q1.1 = 1 then some (q1.1, q1.2) else none
def fX8_taken_b29 (σ : St) (x1 : Int32) (x2 : Int32) (x3 : Int32) (t1 : Int32) (t2 : Int32) : Option (Int64 × St) :=
  Option.bind (fX8_refusalOfOdds σ t1 t2) fun q1 => if q1.1 = 0 then Option.bind (fX3_waysTaken q1.2 x1 x2) fun q4 => Option.bind (fX8_tell q4.2 q4.1 (16384 : Int64) x3) fun q6 => some (q6.1, q6.2) else some (((-1000000000000000000 : Int64) + q1.1.toInt64), q1.2)
def fX8_taken_b28 (σ : St) (x1 : Int32) (x2 : Int32) (x3 : Int32) (t1 : Int32) : Option (Int64 × St) :=
  fX8_taken_b29 σ x1 x2 x3 t1 (0 : Int32)
def fX8_taken (σ : St) (x1 : Int32) (x2 : Int32) (x3 : Int32) : Option (Int64 × St) :=
  Option.bind (fX4_has σ x1) fun q1 => Option.bind (fX8_areJudges q1.2 x2) fun q3 => if q3.1 = 0 then fX8_taken_b28 q3.2 x1 x2 x3 q1.1 else Option.bind (fX8_isPart q3.2 x3) fun q6 => if q6.1 = 0 then fX8_taken_b28 q6.2 x1 x2 x3 q1.1 else fX8_taken_b29 q6.2 x1 x2 x3 q1.1 (1 : Int32)
def fX8_lot_b38 (σ : St) (x1 : Int32) (x2 : Int32) (x3 : Int32) (x4 : Int32) (t1 : Int32) (t2 : Int32) : Option (Int64 × St) :=
  Option.bind (fX8_refusalOfOdds σ t1 t2) fun q1 => if q1.1 = 0 then Option.bind (fX3_waysTaken q1.2 x1 x2) fun q4 => Option.bind (fX3_waysTaken q4.2 x1 x3) fun q6 => Option.bind (fX8_tell q6.2 ((((q4.1 * (((16384 : Int64) - q6.1)))) + ((q6.1 * (((16384 : Int64) - q4.1)))))) (268435456 : Int64) x4) fun q8 => some (q8.1, q8.2) else some (((-1000000000000000000 : Int64) + q1.1.toInt64), q1.2)
def fX8_lot_b37 (σ : St) (x1 : Int32) (x2 : Int32) (x3 : Int32) (x4 : Int32) (t1 : Int32) : Option (Int64 × St) :=
  fX8_lot_b38 σ x1 x2 x3 x4 t1 (0 : Int32)
def fX8_lot (σ : St) (x1 : Int32) (x2 : Int32) (x3 : Int32) (x4 : Int32) : Option (Int64 × St) :=
  Option.bind (fX4_has σ x1) fun q1 => Option.bind (fX8_areJudges q1.2 x2) fun q3 => if q3.1 = 0 then fX8_lot_b37 q3.2 x1 x2 x3 x4 q1.1 else Option.bind (fX8_areJudges q3.2 x3) fun q6 => if q6.1 = 0 then fX8_lot_b37 q6.2 x1 x2 x3 x4 q1.1 else Option.bind (fX8_isPart q6.2 x4) fun q9 => if q9.1 = 0 then fX8_lot_b37 q9.2 x1 x2 x3 x4 q1.1 else fX8_lot_b38 q9.2 x1 x2 x3 x4 q1.1 (1 : Int32)
def fX3_waysRight_b52 (rc5 : St → Int32 → Int32 → Int64 → Int32 → Option (Int64 × St)) (σ : St) (x1 : Int32) (x2 : Int32) (x5 : Int32) (t0 : Int64) (t1 : Int64) : Option (Int64 × St) :=
  rc5 σ x1 x2 (t0 + t1) (x5 + (1 : Int32))
def fX3_waysRight_b5 (rc5 : St → Int32 → Int32 → Int64 → Int32 → Option (Int64 × St)) (σ : St) (x1 : Int32) (x2 : Int32) (x3 : Int64) (x5 : Int32) : Option (Int64 × St) :=
  if (σ.2.1 1) ≤ x5 then some (x3, σ) else Option.bind (fX3_waysTaken σ x5 x2) fun q2 => if ib x5 6 = true then if (q2.2.1 14 x5.toNatClampNeg) < x1 then fX3_waysRight_b52 rc5 q2.2 x1 x2 x5 x3 ((16384 : Int64) - q2.1) else fX3_waysRight_b52 rc5 q2.2 x1 x2 x5 x3 q2.1 else none
def fX3_waysRight_l5 : Nat → St → Int32 → Int32 → Int64 → Int32 → Option (Int64 × St)
  | 0 => fun _ _ _ _ _ => none
  | n + 1 => fun σ x1 x2 x3 x5 => fX3_waysRight_b5 (fX3_waysRight_l5 n) σ x1 x2 x3 x5 
def fX3_waysRight (σ : St) (x1 : Int32) (x2 : Int32) : Option (Int64 × St) :=
  fX3_waysRight_l5 gF σ x1 x2 (0 : Int64) (0 : Int32)
def fX8_isBar (σ : St) (x0 : Int32) : Option (Int32 × St) :=
  Option.bind (fX8_within σ x0 (1 : Int32) (5 : Int32)) fun q1 => if q1.1 = 0 ∨ q1.1 = 1 then some (q1.1, q1.2) else none
def fX8_right_b29 (σ : St) (x1 : Int32) (x2 : Int32) (x3 : Int32) (t1 : Int32) (t2 : Int32) : Option (Int64 × St) :=
  Option.bind (fX8_refusalOfOdds σ t1 t2) fun q1 => if q1.1 = 0 then Option.bind (fX3_waysRight q1.2 x1 x2) fun q4 => Option.bind (fX8_tell q4.2 q4.1 (16384 : Int64) x3) fun q6 => some (q6.1, q6.2) else some (((-1000000000000000000 : Int64) + q1.1.toInt64), q1.2)
def fX8_right_b28 (σ : St) (x1 : Int32) (x2 : Int32) (x3 : Int32) (t1 : Int32) : Option (Int64 × St) :=
  fX8_right_b29 σ x1 x2 x3 t1 (0 : Int32)
def fX8_right (σ : St) (x1 : Int32) (x2 : Int32) (x3 : Int32) : Option (Int64 × St) :=
  Option.bind (fX8_isBar σ x1) fun q1 => if q1.1 = 0 then fX8_right_b28 q1.2 x1 x2 x3 (1 : Int32) else Option.bind (fX8_areJudges q1.2 x2) fun q4 => if q4.1 = 0 then fX8_right_b28 q4.2 x1 x2 x3 (1 : Int32) else Option.bind (fX8_isPart q4.2 x3) fun q7 => if q7.1 = 0 then fX8_right_b28 q7.2 x1 x2 x3 (1 : Int32) else fX8_right_b29 q7.2 x1 x2 x3 (1 : Int32) (1 : Int32)
def fX8_more_b61 (σ : St) (x1 : Int32) (x2 : Int32) (x3 : Int32) (x4 : Int32) (t1 : Int32) (t2 : Int32) : Option (Int64 × St) :=
  Option.bind (fX8_refusalOfOdds σ t1 t2) fun q1 => if q1.1 = 0 then Option.bind (fX3_waysRight q1.2 x2 ((x3 ||| (((1 : Int32) <<< (x1 &&& 31)))))) fun q4 => Option.bind (fX3_waysRight q4.2 x2 x3) fun q6 => Option.bind (fX8_tell q6.2 (q4.1 - q6.1) (16384 : Int64) x4) fun q8 => some (q8.1, q8.2) else some (((-1000000000000000000 : Int64) + q1.1.toInt64), q1.2)
def fX8_more_b60 (σ : St) (x1 : Int32) (x2 : Int32) (x3 : Int32) (x4 : Int32) (t1 : Int32) : Option (Int64 × St) :=
  fX8_more_b61 σ x1 x2 x3 x4 t1 (0 : Int32)
def fX8_more_b28 (σ : St) (x1 : Int32) (x2 : Int32) (x3 : Int32) (x4 : Int32) (t0 : Int32) : Option (Int64 × St) :=
  Option.bind (fX0_has σ x1) fun q1 => if t0 = 0 then fX8_more_b60 q1.2 x1 x2 x3 x4 q1.1 else Option.bind (fX8_hasBit q1.2 x3 x1) fun q4 => if q4.1 = 0 then fX8_more_b61 q4.2 x1 x2 x3 x4 q1.1 (1 : Int32) else fX8_more_b60 q4.2 x1 x2 x3 x4 q1.1
def fX8_more_b27 (σ : St) (x1 : Int32) (x2 : Int32) (x3 : Int32) (x4 : Int32) : Option (Int64 × St) :=
  fX8_more_b28 σ x1 x2 x3 x4 (0 : Int32)
def fX8_more (σ : St) (x1 : Int32) (x2 : Int32) (x3 : Int32) (x4 : Int32) : Option (Int64 × St) :=
  Option.bind (fX8_isBar σ x2) fun q1 => if q1.1 = 0 then fX8_more_b27 q1.2 x1 x2 x3 x4 else Option.bind (fX8_areJudges q1.2 x3) fun q4 => if q4.1 = 0 then fX8_more_b27 q4.2 x1 x2 x3 x4 else Option.bind (fX8_isPart q4.2 x4) fun q7 => if q7.1 = 0 then fX8_more_b27 q7.2 x1 x2 x3 x4 else fX8_more_b28 q7.2 x1 x2 x3 x4 (1 : Int32)
