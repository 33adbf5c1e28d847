def fJ6_bitCount_0f7a4 (σ : St) (x0 : Int32) : Option (Int32 × St) :=
  some ((((((((((((((((x0 - (((((x0.toUInt32 >>> ((1 : Int32).toUInt32 &&& Int32.toUInt32 31)).toInt32)) &&& (1431655765 : Int32))))) &&& (858993459 : Int32))) + (((((((x0 - (((((x0.toUInt32 >>> ((1 : Int32).toUInt32 &&& Int32.toUInt32 31)).toInt32)) &&& (1431655765 : Int32))))).toUInt32 >>> ((2 : Int32).toUInt32 &&& Int32.toUInt32 31)).toInt32)) &&& (858993459 : Int32))))) + (((((((((x0 - (((((x0.toUInt32 >>> ((1 : Int32).toUInt32 &&& Int32.toUInt32 31)).toInt32)) &&& (1431655765 : Int32))))) &&& (858993459 : Int32))) + (((((((x0 - (((((x0.toUInt32 >>> ((1 : Int32).toUInt32 &&& Int32.toUInt32 31)).toInt32)) &&& (1431655765 : Int32))))).toUInt32 >>> ((2 : Int32).toUInt32 &&& Int32.toUInt32 31)).toInt32)) &&& (858993459 : Int32))))).toUInt32 >>> ((4 : Int32).toUInt32 &&& Int32.toUInt32 31)).toInt32)))) &&& (252645135 : Int32))) + (((((((((((((x0 - (((((x0.toUInt32 >>> ((1 : Int32).toUInt32 &&& Int32.toUInt32 31)).toInt32)) &&& (1431655765 : Int32))))) &&& (858993459 : Int32))) + (((((((x0 - (((((x0.toUInt32 >>> ((1 : Int32).toUInt32 &&& Int32.toUInt32 31)).toInt32)) &&& (1431655765 : Int32))))).toUInt32 >>> ((2 : Int32).toUInt32 &&& Int32.toUInt32 31)).toInt32)) &&& (858993459 : Int32))))) + (((((((((x0 - (((((x0.toUInt32 >>> ((1 : Int32).toUInt32 &&& Int32.toUInt32 31)).toInt32)) &&& (1431655765 : Int32))))) &&& (858993459 : Int32))) + (((((((x0 - (((((x0.toUInt32 >>> ((1 : Int32).toUInt32 &&& Int32.toUInt32 31)).toInt32)) &&& (1431655765 : Int32))))).toUInt32 >>> ((2 : Int32).toUInt32 &&& Int32.toUInt32 31)).toInt32)) &&& (858993459 : Int32))))).toUInt32 >>> ((4 : Int32).toUInt32 &&& Int32.toUInt32 31)).toInt32)))) &&& (252645135 : Int32))).toUInt32 >>> ((8 : Int32).toUInt32 &&& Int32.toUInt32 31)).toInt32)))) + (((((((((((((((x0 - (((((x0.toUInt32 >>> ((1 : Int32).toUInt32 &&& Int32.toUInt32 31)).toInt32)) &&& (1431655765 : Int32))))) &&& (858993459 : Int32))) + (((((((x0 - (((((x0.toUInt32 >>> ((1 : Int32).toUInt32 &&& Int32.toUInt32 31)).toInt32)) &&& (1431655765 : Int32))))).toUInt32 >>> ((2 : Int32).toUInt32 &&& Int32.toUInt32 31)).toInt32)) &&& (858993459 : Int32))))) + (((((((((x0 - (((((x0.toUInt32 >>> ((1 : Int32).toUInt32 &&& Int32.toUInt32 31)).toInt32)) &&& (1431655765 : Int32))))) &&& (858993459 : Int32))) + (((((((x0 - (((((x0.toUInt32 >>> ((1 : Int32).toUInt32 &&& Int32.toUInt32 31)).toInt32)) &&& (1431655765 : Int32))))).toUInt32 >>> ((2 : Int32).toUInt32 &&& Int32.toUInt32 31)).toInt32)) &&& (858993459 : Int32))))).toUInt32 >>> ((4 : Int32).toUInt32 &&& Int32.toUInt32 31)).toInt32)))) &&& (252645135 : Int32))) + (((((((((((((x0 - (((((x0.toUInt32 >>> ((1 : Int32).toUInt32 &&& Int32.toUInt32 31)).toInt32)) &&& (1431655765 : Int32))))) &&& (858993459 : Int32))) + (((((((x0 - (((((x0.toUInt32 >>> ((1 : Int32).toUInt32 &&& Int32.toUInt32 31)).toInt32)) &&& (1431655765 : Int32))))).toUInt32 >>> ((2 : Int32).toUInt32 &&& Int32.toUInt32 31)).toInt32)) &&& (858993459 : Int32))))) + (((((((((x0 - (((((x0.toUInt32 >>> ((1 : Int32).toUInt32 &&& Int32.toUInt32 31)).toInt32)) &&& (1431655765 : Int32))))) &&& (858993459 : Int32))) + (((((((x0 - (((((x0.toUInt32 >>> ((1 : Int32).toUInt32 &&& Int32.toUInt32 31)).toInt32)) &&& (1431655765 : Int32))))).toUInt32 >>> ((2 : Int32).toUInt32 &&& Int32.toUInt32 31)).toInt32)) &&& (858993459 : Int32))))).toUInt32 >>> ((4 : Int32).toUInt32 &&& Int32.toUInt32 31)).toInt32)))) &&& (252645135 : Int32))).toUInt32 >>> ((8 : Int32).toUInt32 &&& Int32.toUInt32 31)).toInt32)))).toUInt32 >>> ((16 : Int32).toUInt32 &&& Int32.toUInt32 31)).toInt32)))) &&& (63 : Int32)), σ)
def fX8_power_b5 (rc5 : St → Int64 → Int32 → Int64 → Int32 → Option (Int64 × St)) (σ : St) (x0 : Int64) (x2 : Int32) (x3 : Int64) (x5 : Int32) : Option (Int64 × St) :=
  if x2 ≤ x5 then some (x3, σ) else rc5 σ x0 x2 (x3 * x0) (x5 + (1 : Int32))
def fX8_power_l5 : Nat → St → Int64 → Int32 → Int64 → Int32 → Option (Int64 × St)
  | 0 => fun _ _ _ _ _ => none
  | n + 1 => fun σ x0 x2 x3 x5 => fX8_power_b5 (fX8_power_l5 n) σ x0 x2 x3 x5 
def fX8_power (σ : St) (x0 : Int64) (x2 : Int32) : Option (Int64 × St) :=
  fX8_power_l5 gF σ x0 x2 (1 : Int64) (0 : Int32)
def fX8_rounds_b123 (rc123 : St → Int32 → Int32 → Int32 → Int32 → Int64 → Int64 → Int32 → Option (Int64 × St)) (σ : St) (x1 : Int32) (x2 : Int32) (x3 : Int32) (x5 : Int32) (x8 : Int64) (x10 : Int64) (x12 : Int32) : Option (Int64 × St) :=
  if x3 ≤ x12 then Option.bind (fX4_withoutWriter σ x1 x2) fun q2 => Option.bind (fJ6_bitCount_0f7a4 q2.2 q2.1) fun q4 => Option.bind (fX8_power q4.2 (16384 : Int64) ((x3 - (1 : Int32)))) fun q6 => Option.bind (fX8_tell q6.2 (q4.1.toInt64 * x10) q6.1 x5) fun q8 => some (q8.1, q8.2) else Option.bind (fX8_power σ x8 x12) fun q10 => Option.bind (fX8_power q10.2 (16384 : Int64) ((((x3 - (1 : Int32))) - x12))) fun q12 => rc123 q12.2 x1 x2 x3 x5 x8 (x10 + (q10.1 * q12.1)) (x12 + (1 : Int32))
def fX8_rounds_l123 : Nat → St → Int32 → Int32 → Int32 → Int32 → Int64 → Int64 → Int32 → Option (Int64 × St)
  | 0 => fun _ _ _ _ _ _ _ _ => none
  | n + 1 => fun σ x1 x2 x3 x5 x8 x10 x12 => fX8_rounds_b123 (fX8_rounds_l123 n) σ x1 x2 x3 x5 x8 x10 x12 
def fX8_rounds_b40 (σ : St) (x1 : Int32) (x2 : Int32) (x3 : Int32) (x4 : Int32) (x5 : Int32) (t0 : Int32) : Option (Int64 × St) :=
  Option.bind (fX4_has σ x1) fun q1 => Option.bind (fX8_refusalOfOdds q1.2 q1.1 t0) fun q3 => if q3.1 = 0 then Option.bind (fX3_waysTaken q3.2 x1 x2) fun q6 => if x4 = 0 then Option.bind (fX8_power q6.2 (16384 : Int64) x3) fun q9 => Option.bind (fX8_power q9.2 (((16384 : Int64) - q6.1)) x3) fun q11 => Option.bind (fX8_tell q11.2 (q9.1 - q11.1) q9.1 x5) fun q13 => some (q13.1, q13.2) else fX8_rounds_l123 gF q6.2 x1 x2 x3 x5 ((16384 : Int64) - q6.1) (0 : Int64) (0 : Int32) else some (((-1000000000000000000 : Int64) + q3.1.toInt64), q3.2)
def fX8_rounds_b39 (σ : St) (x1 : Int32) (x2 : Int32) (x3 : Int32) (x4 : Int32) (x5 : Int32) : Option (Int64 × St) :=
  fX8_rounds_b40 σ x1 x2 x3 x4 x5 (0 : Int32)
def fX8_rounds (σ : St) (x1 : Int32) (x2 : Int32) (x3 : Int32) (x4 : Int32) (x5 : Int32) : Option (Int64 × St) :=
  Option.bind (fX8_areJudges σ x2) fun q1 => if q1.1 = 0 then fX8_rounds_b39 q1.2 x1 x2 x3 x4 x5 else Option.bind (fX8_within q1.2 x3 (1 : Int32) (4 : Int32)) fun q4 => if q4.1 = 0 then fX8_rounds_b39 q4.2 x1 x2 x3 x4 x5 else Option.bind (fX8_within q4.2 x4 (0 : Int32) (1 : Int32)) fun q7 => if q7.1 = 0 then fX8_rounds_b39 q7.2 x1 x2 x3 x4 x5 else Option.bind (fX8_isPart q7.2 x5) fun q10 => if q10.1 = 0 then fX8_rounds_b39 q10.2 x1 x2 x3 x4 x5 else fX8_rounds_b40 q10.2 x1 x2 x3 x4 x5 (1 : Int32)
def fX3_waysOfMarks_3_b49 (rc6 : St → Int32 → Int32 → Int64 → Int32 → Option (Int64 × St)) (σ : St) (x2 : Int32) (x3 : Int32) (x4 : Int64) (x6 : Int32) : Option (Int64 × St) :=
  rc6 σ x2 x3 x4 (x6 + (1 : Int32))
def fX3_waysOfMarks_3_b6 (rc6 : St → Int32 → Int32 → Int64 → Int32 → Option (Int64 × St)) (σ : St) (x2 : Int32) (x3 : Int32) (x4 : Int64) (x6 : Int32) : Option (Int64 × St) :=
  if (σ.2.1 0) ≤ x6 then some (x4, σ) else Option.bind (fX1_has σ x6 x2) fun q2 => if q2.1 = 0 then fX3_waysOfMarks_3_b49 rc6 q2.2 x2 x3 x4 x6 else Option.bind (fX1_of q2.2 x6 x2) fun q5 => Option.bind (fX3_waysOfMark q5.2 x6 x2 x3 q5.1) fun q7 => fX3_waysOfMarks_3_b49 rc6 q7.2 x2 x3 (x4 * q7.1.toInt64) x6
def fX3_waysOfMarks_3_l6 : Nat → St → Int32 → Int32 → Int64 → Int32 → Option (Int64 × St)
  | 0 => fun _ _ _ _ _ => none
  | n + 1 => fun σ x2 x3 x4 x6 => fX3_waysOfMarks_3_b6 (fX3_waysOfMarks_3_l6 n) σ x2 x3 x4 x6 
def fX3_waysOfMarks_3 (σ : St) (x2 : Int32) (x3 : Int32) : Option (Int64 × St) :=
  fX3_waysOfMarks_3_l6 gF σ x2 x3 (1 : Int64) (0 : Int32)
def fX8_worth_b41 (rc41 : St → Int32 → Int32 → Int32 → Int64 → Int32 → Option (Int64 × St)) (σ : St) (x1 : Int32) (x2 : Int32) (x3 : Int32) (x4 : Int64) (x6 : Int32) : Option (Int64 × St) :=
  if (5 : Int32) < x6 then Option.bind (fX3_waysOfMarks_3 σ x1 x2) fun q2 => Option.bind (fX8_tell q2.2 q2.1 x4 x3) fun q4 => some (q4.1, q4.2) else Option.bind (fX3_waysOfMarks_3 σ x1 x6) fun q6 => rc41 q6.2 x1 x2 x3 (x4 + q6.1) (x6 + (1 : Int32))
def fX8_worth_l41 : Nat → St → Int32 → Int32 → Int32 → Int64 → Int32 → Option (Int64 × St)
  | 0 => fun _ _ _ _ _ _ => none
  | n + 1 => fun σ x1 x2 x3 x4 x6 => fX8_worth_b41 (fX8_worth_l41 n) σ x1 x2 x3 x4 x6 
def fX8_worth (σ : St) (x1 : Int32) (x2 : Int32) (x3 : Int32) : Option (Int64 × St) :=
  Option.bind (fX4_has σ x1) fun q1 => if q1.1 = 0 then some ((-1000000000000000001 : Int64), q1.2) else Option.bind (fX8_within q1.2 x2 (0 : Int32) (5 : Int32)) fun q4 => if q4.1 = 0 then some ((-1000000000000000002 : Int64), q4.2) else Option.bind (fX8_isPart q4.2 x3) fun q7 => if q7.1 = 0 then some ((-1000000000000000002 : Int64), q7.2) else fX8_worth_l41 gF q7.2 x1 x2 x3 (0 : Int64) (0 : Int32)
def fX1_judgesOf_b27 (rc4 : St → Int32 → Int32 → Int32 → Option (Int32 × St)) (σ : St) (x1 : Int32) (x3 : Int32) (t0 : Int32) (t1 : Int32) : Option (Int32 × St) :=
  rc4 σ x1 (t0 ||| t1) (x3 + (1 : Int32))
def fX1_judgesOf_b4 (rc4 : St → Int32 → Int32 → Int32 → Option (Int32 × St)) (σ : St) (x1 : Int32) (x2 : Int32) (x3 : Int32) : Option (Int32 × St) :=
  if (6 : Int32) ≤ x3 then some (x2, σ) else Option.bind (fX1_has σ x3 x1) fun q2 => if q2.1 = 0 then fX1_judgesOf_b27 rc4 q2.2 x1 x3 x2 (0 : Int32) else fX1_judgesOf_b27 rc4 q2.2 x1 x3 x2 ((1 : Int32) <<< (x3 &&& 31))
def fX1_judgesOf_l4 : Nat → St → Int32 → Int32 → Int32 → Option (Int32 × St)
  | 0 => fun _ _ _ _ => none
  | n + 1 => fun σ x1 x2 x3 => fX1_judgesOf_b4 (fX1_judgesOf_l4 n) σ x1 x2 x3 
def fX1_judgesOf (σ : St) (x1 : Int32) : Option (Int32 × St) :=
  fX1_judgesOf_l4 gF σ x1 (0 : Int32) (0 : Int32)
def fX1_joinedWith_b46 (rc9 : St → Int32 → Int32 → Int32 → Option (Int32 × St)) (rc19 : St → Int32 → Int32 → Int32 → Int32 → Option (Int32 × St)) (σ : St) (x2 : Int32) (x3 : Int32) (x4 : Int32) (x5 : Int32) : Option (Int32 × St) :=
  rc19 σ x2 x3 x4 (x5 + (1 : Int32))
def fX1_joinedWith_b19 (rc9 : St → Int32 → Int32 → Int32 → Option (Int32 × St)) (rc19 : St → Int32 → Int32 → Int32 → Int32 → Option (Int32 × St)) (σ : St) (x2 : Int32) (x3 : Int32) (x4 : Int32) (x5 : Int32) : Option (Int32 × St) :=
  if (6 : Int32) ≤ x5 then rc9 σ x2 (x3 ||| x2) (x4 + (1 : Int32)) else Option.bind (fX1_judgesOf σ x5) fun q2 => if (q2.1 &&& x3) = 0 then fX1_joinedWith_b46 rc9 rc19 q2.2 x2 x3 x4 x5 else fX1_joinedWith_b46 rc9 rc19 q2.2 (x2 ||| q2.1) x3 x4 x5
def fX1_joinedWith_l19 (rc9 : St → Int32 → Int32 → Int32 → Option (Int32 × St)) : Nat → St → Int32 → Int32 → Int32 → Int32 → Option (Int32 × St)
  | 0 => fun _ _ _ _ _ => none
  | n + 1 => fun σ x2 x3 x4 x5 => fX1_joinedWith_b19 rc9 (fX1_joinedWith_l19 rc9 n) σ x2 x3 x4 x5 
def fX1_joinedWith_b9 (rc9 : St → Int32 → Int32 → Int32 → Option (Int32 × St)) (σ : St) (x2 : Int32) (x3 : Int32) (x4 : Int32) : Option (Int32 × St) :=
  if (6 : Int32) ≤ x4 then some (x2, σ) else fX1_joinedWith_l19 rc9 gF σ x2 x3 x4 (0 : Int32)
def fX1_joinedWith_l9 : Nat → St → Int32 → Int32 → Int32 → Option (Int32 × St)
  | 0 => fun _ _ _ _ => none
  | n + 1 => fun σ x2 x3 x4 => fX1_joinedWith_b9 (fX1_joinedWith_l9 n) σ x2 x3 x4 
def fX1_joinedWith (σ : St) (x1 : Int32) : Option (Int32 × St) :=
  fX1_joinedWith_l9 gF σ (0 : Int32) ((1 : Int32) <<< (x1 &&& 31)) (0 : Int32)
def fX8_joined (σ : St) (x1 : Int32) : Option (Int32 × St) :=
  Option.bind (fX0_has σ x1) fun q1 => if q1.1 = 0 then some ((-1 : Int32), q1.2) else Option.bind (fX1_joinedWith q1.2 x1) fun q4 => some (q4.1, q4.2)
def fX8_parts_b37 (rc4 : St → Int32 → Int32 → Option (Int32 × St)) (σ : St) (x1 : Int32) (x2 : Int32) : Option (Int32 × St) :=
  rc4 σ x1 (x2 + (1 : Int32))
def fX8_parts_b4 (rc4 : St → Int32 → Int32 → Option (Int32 × St)) (σ : St) (x1 : Int32) (x2 : Int32) : Option (Int32 × St) :=
  if (σ.2.1 0) ≤ x2 then some (x1, σ) else Option.bind (fX1_joinedWith σ x2) fun q2 => if ((q2.1 &&& (-q2.1))) = (((1 : Int32) <<< (x2 &&& 31))) then fX8_parts_b37 rc4 q2.2 (x1 + (1 : Int32)) x2 else fX8_parts_b37 rc4 q2.2 x1 x2
def fX8_parts_l4 : Nat → St → Int32 → Int32 → Option (Int32 × St)
  | 0 => fun _ _ _ => none
  | n + 1 => fun σ x1 x2 => fX8_parts_b4 (fX8_parts_l4 n) σ x1 x2 
def fX8_parts (σ : St) : Option (Int32 × St) :=
  fX8_parts_l4 gF σ (0 : Int32) (0 : Int32)
def fX1_countOf (σ : St) (x1 : Int32) : Option (Int32 × St) :=
  Option.bind (fX1_judgesOf σ x1) fun q1 => Option.bind (fJ6_bitCount_0f7a4 q1.2 q1.1) fun q3 => some (q3.1, q3.2)
def fX1_comparable (σ : St) (x1 : Int32) (x2 : Int32) : Option (Int32 × St) :=
  Option.bind (fX1_has σ x1 x2) fun q1 => if q1.1 = 0 then some ((0 : Int32), q1.2) else Option.bind (fX1_countOf q1.2 x2) fun q4 => if q4.1 ≤ (1 : Int32) then some ((0 : Int32), q4.2) else some ((1 : Int32), q4.2)
def fX1_sumOf_b30 (rc4 : St → Int32 → Int32 → Int32 → Option (Int32 × St)) (σ : St) (x1 : Int32) (x3 : Int32) (t0 : Int32) (t1 : Int32) : Option (Int32 × St) :=
  rc4 σ x1 (t0 + t1) (x3 + (1 : Int32))
def fX1_sumOf_b4 (rc4 : St → Int32 → Int32 → Int32 → Option (Int32 × St)) (σ : St) (x1 : Int32) (x2 : Int32) (x3 : Int32) : Option (Int32 × St) :=
  if (6 : Int32) ≤ x3 then some (x2, σ) else Option.bind (fX1_has σ x3 x1) fun q2 => if q2.1 = 0 then fX1_sumOf_b30 rc4 q2.2 x1 x3 x2 (0 : Int32) else Option.bind (fX1_of q2.2 x3 x1) fun q5 => fX1_sumOf_b30 rc4 q5.2 x1 x3 x2 q5.1
def fX1_sumOf_l4 : Nat → St → Int32 → Int32 → Int32 → Option (Int32 × St)
  | 0 => fun _ _ _ _ => none
  | n + 1 => fun σ x1 x2 x3 => fX1_sumOf_b4 (fX1_sumOf_l4 n) σ x1 x2 x3 
def fX1_sumOf (σ : St) (x1 : Int32) : Option (Int32 × St) :=
  fX1_sumOf_l4 gF σ x1 (0 : Int32) (0 : Int32)
def fX1_aboveOthers (σ : St) (x1 : Int32) (x2 : Int32) : Option (Int32 × St) :=
  Option.bind (fX1_countOf σ x2) fun q1 => if 0 < ((q1.1 - (1 : Int32))) then Option.bind (fX1_of q1.2 x1 x2) fun q4 => Option.bind (fX1_sumOf q4.2 x2) fun q6 => if ¬ ((q1.1 - (1 : Int32))) = 0 then some ((((q4.1 * (60 : Int32))) - (((q6.1 - q4.1) * (((60 : Int32) / ((q1.1 - (1 : Int32)))))))), q6.2) else none else some ((0 : Int32), q1.2)
