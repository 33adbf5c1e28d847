def fX5_goOn_b10 (σ : St) (x1 : Int32) (x3 : Int32) : Option (Unit × St) :=
  if ib x1 10 = true then if ib x1 10 = true then some ((), (uA σ 23 x1.toNatClampNeg (((((10 : Int32) * (σ.1 23 x1.toNatClampNeg))) + x3)))) else none else none
def fX5_goOn (σ : St) (x1 : Int32) (x2 : Int32) (x3 : Int32) : Option (Unit × St) :=
  if x2 = (3 : Int32) then fX5_goOn_b10 σ x1 x3 else if x2 = (4 : Int32) then fX5_goOn_b10 σ x1 x3 else if x2 = (6 : Int32) then if ib x1 10 = true then some ((), (uA σ 24 x1.toNatClampNeg x3)) else none else some ((), σ)
def fX5_begin (σ : St) (x1 : Int32) : Option (Unit × St) :=
  if ib (σ.2.1 3) 10 = true then if ib ((((uA σ 22 (σ.2.1 3).toNatClampNeg x1)).2.1 3)) 10 = true then if ib ((((uA ((uA σ 22 (σ.2.1 3).toNatClampNeg x1)) 23 ((((uA σ 22 (σ.2.1 3).toNatClampNeg x1)).2.1 3)).toNatClampNeg (0 : Int32))).2.1 3)) 10 = true then some ((), (uI ((uA ((uA ((uA σ 22 (σ.2.1 3).toNatClampNeg x1)) 23 ((((uA σ 22 (σ.2.1 3).toNatClampNeg x1)).2.1 3)).toNatClampNeg (0 : Int32))) 24 ((((uA ((uA σ 22 (σ.2.1 3).toNatClampNeg x1)) 23 ((((uA σ 22 (σ.2.1 3).toNatClampNeg x1)).2.1 3)).toNatClampNeg (0 : Int32))).2.1 3)).toNatClampNeg (4 : Int32))) 3 ((((((uA ((uA ((uA σ 22 (σ.2.1 3).toNatClampNeg x1)) 23 ((((uA σ 22 (σ.2.1 3).toNatClampNeg x1)).2.1 3)).toNatClampNeg (0 : Int32))) 24 ((((uA ((uA σ 22 (σ.2.1 3).toNatClampNeg x1)) 23 ((((uA σ 22 (σ.2.1 3).toNatClampNeg x1)).2.1 3)).toNatClampNeg (0 : Int32))).2.1 3)).toNatClampNeg (4 : Int32))).2.1 3)) + (1 : Int32))))) else none else none else none
def fX5_read_4_b78 (rc9 : St → Int32 → Int32 → Option (Unit × St)) (σ : St) (x2 : Int32) (x3 : Int32) : Option (Unit × St) :=
  rc9 σ x2 (x3 + (1 : Int32))
def fX5_read_4_b55 (rc9 : St → Int32 → Int32 → Option (Unit × St)) (σ : St) (x2 : Int32) (x3 : Int32) (x4 : Int32) : Option (Unit × St) :=
  if (σ.2.1 3) ≤ 0 then fX5_read_4_b78 rc9 σ x2 x3 else Option.bind (fX5_goOn σ (((σ.2.1 3) - (1 : Int32))) x2 ((x4 - (48 : Int32)))) fun q2 => fX5_read_4_b78 rc9 q2.2 x2 x3
def fX5_read_4_b9 (rc9 : St → Int32 → Int32 → Option (Unit × St)) (σ : St) (x2 : Int32) (x3 : Int32) : Option (Unit × St) :=
  if (σ.2.1 2) ≤ x3 then some ((), σ) else if ib x3 40 = true then Option.bind (fX6_after σ x2 (σ.1 21 x3.toNatClampNeg)) fun q3 => if q3.1 = (1 : Int32) then if (10 : Int32) ≤ (q3.2.2.1 3) then fX5_read_4_b55 rc9 q3.2 q3.1 x3 (σ.1 21 x3.toNatClampNeg) else Option.bind (fX5_begin q3.2 (σ.1 21 x3.toNatClampNeg)) fun q7 => fX5_read_4_b78 rc9 q7.2 q3.1 x3 else fX5_read_4_b55 rc9 q3.2 q3.1 x3 (σ.1 21 x3.toNatClampNeg) else none
def fX5_read_4_l9 : Nat → St → Int32 → Int32 → Option (Unit × St)
  | 0 => fun _ _ _ => none
  | n + 1 => fun σ x2 x3 => fX5_read_4_b9 (fX5_read_4_l9 n) σ x2 x3 
def fX5_read_4 (σ : St) : Option (Unit × St) :=
  fX5_read_4_l9 gF (uI σ 3 (0 : Int32)) (0 : Int32) (0 : Int32)
def fX8_rule (σ : St) : Option (Int32 × St) :=
  Option.bind (fX6_firstFault σ) fun q1 => if q1.1 = (-6 : Int32) then Option.bind (fX5_read_4 q1.2) fun q4 => Option.bind (fX6_clear q4.2) fun q6 => some ((q6.2.2.1 3), q6.2) else some ((-5 : Int32), q1.2)
def fX1_of (σ : St) (x1 : Int32) (x2 : Int32) : Option (Int32 × St) :=
  if ib ((((x1 * (6 : Int32))) + x2)) 36 = true then some ((σ.1 19 ((((x1 * (6 : Int32))) + x2)).toNatClampNeg), σ) else none
def fX1_has (σ : St) (x1 : Int32) (x2 : Int32) : Option (Int32 × St) :=
  Option.bind (fX1_of σ x1 x2) fun q1 => if q1.1 = (-6 : Int32) then some ((0 : Int32), q1.2) else some ((1 : Int32), q1.2)
def fX7_put_8 (σ : St) (x1 : Int32) (x2 : Int32) : Option (Unit × St) :=
  if ib x1 6 = true then if ib x1 6 = true then some ((), (uI ((uI ((uA σ 20 x1.toNatClampNeg (((σ.1 20 x1.toNatClampNeg) + x2)))) 4 ((((((uA σ 20 x1.toNatClampNeg (((σ.1 20 x1.toNatClampNeg) + x2)))).2.1 4)) + x2)))) 5 ((((((uI ((uA σ 20 x1.toNatClampNeg (((σ.1 20 x1.toNatClampNeg) + x2)))) 4 ((((((uA σ 20 x1.toNatClampNeg (((σ.1 20 x1.toNatClampNeg) + x2)))).2.1 4)) + x2)))).2.1 5)) + (x1 * x2))))) else none else none
def fJ7_fill_53178_20_b5 (rc5 : St → Int32 → Int32 → Int32 → Option (Unit × St)) (σ : St) (x1 : Int32) (x2 : Int32) (x3 : Int32) : Option (Unit × St) :=
  if x3 ≤ x2 then some ((), σ) else if ib x2 6 = true then rc5 (uA σ 20 x2.toNatClampNeg x1) x1 (x2 + (1 : Int32)) x3 else none
def fJ7_fill_53178_20_l5 : Nat → St → Int32 → Int32 → Int32 → Option (Unit × St)
  | 0 => fun _ _ _ _ => none
  | n + 1 => fun σ x1 x2 x3 => fJ7_fill_53178_20_b5 (fJ7_fill_53178_20_l5 n) σ x1 x2 x3 
def fJ7_fill_53178_20 (σ : St) (x1 : Int32) : Option (Unit × St) :=
  fJ7_fill_53178_20_l5 gF σ x1 (0 : Int32) (6 : Int32)
def fX7_clear_8 (σ : St) : Option (Unit × St) :=
  Option.bind (fJ7_fill_53178_20 σ (0 : Int32)) fun q1 => some ((), (uI ((uI q1.2 4 (0 : Int32))) 5 (0 : Int32)))
def fX1_tallyOf_b38 (rc9 : St → Int32 → Int32 → Option (Unit × St)) (σ : St) (x1 : Int32) (x2 : Int32) : Option (Unit × St) :=
  rc9 σ x1 (x2 + (1 : Int32))
def fX1_tallyOf_b9 (rc9 : St → Int32 → Int32 → Option (Unit × St)) (σ : St) (x1 : Int32) (x2 : Int32) : Option (Unit × St) :=
  if (6 : Int32) ≤ x2 then some ((), σ) else Option.bind (fX1_has σ x2 x1) fun q2 => if q2.1 = 0 then fX1_tallyOf_b38 rc9 q2.2 x1 x2 else Option.bind (fX1_of q2.2 x2 x1) fun q5 => Option.bind (fX7_put_8 q5.2 q5.1 (1 : Int32)) fun q7 => fX1_tallyOf_b38 rc9 q7.2 x1 x2
def fX1_tallyOf_l9 : Nat → St → Int32 → Int32 → Option (Unit × St)
  | 0 => fun _ _ _ => none
  | n + 1 => fun σ x1 x2 => fX1_tallyOf_b9 (fX1_tallyOf_l9 n) σ x1 x2 
def fX1_tallyOf (σ : St) (x1 : Int32) : Option (Unit × St) :=
  Option.bind (fX7_clear_8 σ) fun q1 => fX1_tallyOf_l9 gF q1.2 x1 (0 : Int32)
def fX7_fromBelow_8_b4 (rc4 : St → Int32 → Int32 → Int32 → Option (Int32 × St)) (σ : St) (x1 : Int32) (x2 : Int32) (x3 : Int32) : Option (Int32 × St) :=
  if (5 : Int32) ≤ x3 then some ((5 : Int32), σ) else if ib x3 6 = true then if ((x2 + (σ.1 20 x3.toNatClampNeg))) ≤ x1 then rc4 σ x1 (x2 + (σ.1 20 x3.toNatClampNeg)) (x3 + (1 : Int32)) else some (x3, σ) else none
def fX7_fromBelow_8_l4 : Nat → St → Int32 → Int32 → Int32 → Option (Int32 × St)
  | 0 => fun _ _ _ _ => none
  | n + 1 => fun σ x1 x2 x3 => fX7_fromBelow_8_b4 (fX7_fromBelow_8_l4 n) σ x1 x2 x3 
def fX7_fromBelow_8 (σ : St) (x1 : Int32) : Option (Int32 × St) :=
  fX7_fromBelow_8_l4 gF σ x1 (0 : Int32) (0 : Int32)
def fX7_tenths_8 (σ : St) (x1 : Int32) : Option (Int32 × St) :=
  if x1 = (97 : Int32) then if (σ.2.1 4) ≤ 0 then some ((0 : Int32), σ) else if ¬ (σ.2.1 4) = 0 then some (((((10 : Int32) * (σ.2.1 5))) / (σ.2.1 4)), σ) else none else if x1 = (108 : Int32) then Option.bind (fX7_fromBelow_8 σ (0 : Int32)) fun q5 => some (((10 : Int32) * q5.1), q5.2) else if x1 = (109 : Int32) then Option.bind (fX7_fromBelow_8 σ (((((σ.2.1 4) - (1 : Int32))) / (2 : Int32)))) fun q8 => some (((10 : Int32) * q8.1), q8.2) else Option.bind (fX7_fromBelow_8 σ (((σ.2.1 4) - (1 : Int32)))) fun q10 => some (((10 : Int32) * q10.1), q10.2)
def fX5_quarters_8_b11 (rc11 : St → Int32 → Option (Int32 × St)) (σ : St) (x2 : Int32) : Option (Int32 × St) :=
  if (σ.2.1 3) ≤ x2 then some ((0 : Int32), σ) else if ib x2 10 = true then Option.bind (fX7_tenths_8 σ (σ.1 22 x2.toNatClampNeg)) fun q3 => if ib x2 10 = true then if q3.1 ≤ (q3.2.1 23 x2.toNatClampNeg) then rc11 q3.2 (x2 + (1 : Int32)) else if ib x2 10 = true then some ((q3.2.1 24 x2.toNatClampNeg), q3.2) else none else none else none
def fX5_quarters_8_l11 : Nat → St → Int32 → Option (Int32 × St)
  | 0 => fun _ _ => none
  | n + 1 => fun σ x2 => fX5_quarters_8_b11 (fX5_quarters_8_l11 n) σ x2 
def fX5_quarters_8 (σ : St) : Option (Int32 × St) :=
  if 0 < (σ.2.1 4) then fX5_quarters_8_l11 gF σ (0 : Int32) else some ((0 : Int32), σ)
def fX8_yes (σ : St) (x1 : Int32) : Option (Int32 × St) :=
  Option.bind (fX4_has σ x1) fun q1 => if q1.1 = 0 then some ((-1 : Int32), q1.2) else if (q1.2.2.1 3) = 0 then some ((-3 : Int32), q1.2) else Option.bind (fX1_tallyOf q1.2 x1) fun q5 => Option.bind (fX5_quarters_8 q5.2) fun q7 => some (q7.1, q7.2)
def fX8_refusalOfOdds (σ : St) (x1 : Int32) (x2 : Int32) : Option (Int32 × St) :=
  if x1 = 0 then some ((-1 : Int32), σ) else if x2 = 0 then some ((-2 : Int32), σ) else if (σ.2.1 3) = 0 then some ((-3 : Int32), σ) else some ((0 : Int32), σ)
def fJ7_fill_53178_26_b5 (rc5 : St → Int32 → Int32 → Int32 → Option (Unit × St)) (σ : St) (x1 : Int32) (x2 : Int32) (x3 : Int32) : Option (Unit × St) :=
  if x3 ≤ x2 then some ((), σ) else if ib x2 6 = true then rc5 (uA σ 26 x2.toNatClampNeg x1) x1 (x2 + (1 : Int32)) x3 else none
def fJ7_fill_53178_26_l5 : Nat → St → Int32 → Int32 → Int32 → Option (Unit × St)
  | 0 => fun _ _ _ _ => none
  | n + 1 => fun σ x1 x2 x3 => fJ7_fill_53178_26_b5 (fJ7_fill_53178_26_l5 n) σ x1 x2 x3 
def fJ7_fill_53178_26 (σ : St) (x1 : Int32) : Option (Unit × St) :=
  fJ7_fill_53178_26_l5 gF σ x1 (0 : Int32) (6 : Int32)
def fX7_clear_9 (σ : St) : Option (Unit × St) :=
  Option.bind (fJ7_fill_53178_26 σ (0 : Int32)) fun q1 => some ((), (uI ((uI q1.2 6 (0 : Int32))) 7 (0 : Int32)))
def fX3_bounded (σ : St) (x0 : Int32) : Option (Int32 × St) :=
  some ((if (0 : Int32) < ((if x0 < (5 : Int32) then x0 else (5 : Int32))) then ((if x0 < (5 : Int32) then x0 else (5 : Int32))) else (0 : Int32)), σ)
def fX3_waysOfMark_b90 (σ : St) (x4 : Int32) (x5 : Int32) (x6 : Int32) (t0 : Int32) (t1 : Int32) : Option (Int32 × St) :=
  Option.bind (fX3_bounded σ ((x5 + (1 : Int32)))) fun q1 => if q1.1 = x4 then some (((t0 + t1) + x6), q1.2) else some (((t0 + t1) + (0 : Int32)), q1.2)
def fX3_waysOfMark_b65 (σ : St) (x4 : Int32) (x5 : Int32) (x6 : Int32) (t0 : Int32) (t1 : Int32) : Option (Int32 × St) :=
  Option.bind (fX3_bounded σ x5) fun q1 => if q1.1 = x4 then fX3_waysOfMark_b90 q1.2 x4 x5 x6 (t0 + t1) ((4 : Int32) - (((2 : Int32) * x6))) else fX3_waysOfMark_b90 q1.2 x4 x5 x6 (t0 + t1) (0 : Int32)
def fX3_waysOfMark (σ : St) (x1 : Int32) (x2 : Int32) (x3 : Int32) (x4 : Int32) : Option (Int32 × St) :=
  if ib x1 6 = true then if ib x2 6 = true then Option.bind (fX0_tieOf σ x1 (σ.1 15 x2.toNatClampNeg)) fun q3 => if ib x1 6 = true then Option.bind (fX3_bounded q3.2 ((((((x3 + (σ.1 10 x1.toNatClampNeg))) + q3.1)) - (1 : Int32)))) fun q6 => if q6.1 = x4 then fX3_waysOfMark_b65 q6.2 x4 (((x3 + (σ.1 10 x1.toNatClampNeg))) + q3.1) (q3.2.1 11 x1.toNatClampNeg) (0 : Int32) (q3.2.1 11 x1.toNatClampNeg) else fX3_waysOfMark_b65 q6.2 x4 (((x3 + (σ.1 10 x1.toNatClampNeg))) + q3.1) (q3.2.1 11 x1.toNatClampNeg) (0 : Int32) (0 : Int32) else none else none else none
def fX3_layOutWays_b15 (rc2 : St → Int32 → Int32 → Option (Unit × St)) (rc15 : St → Int32 → Int32 → Int32 → Option (Unit × St)) (σ : St) (x1 : Int32) (x2 : Int32) (x3 : Int32) : Option (Unit × St) :=
  if (5 : Int32) < x3 then rc2 σ x1 (x2 + (1 : Int32)) else if ib x1 6 = true then Option.bind (fX3_waysOfMark σ x2 x1 (σ.1 14 x1.toNatClampNeg) x3) fun q3 => if ib ((((x2 * (6 : Int32))) + x3)) 36 = true then rc15 (uA q3.2 25 ((((x2 * (6 : Int32))) + x3)).toNatClampNeg q3.1) x1 x2 (x3 + (1 : Int32)) else none else none
def fX3_layOutWays_l15 (rc2 : St → Int32 → Int32 → Option (Unit × St)) : Nat → St → Int32 → Int32 → Int32 → Option (Unit × St)
  | 0 => fun _ _ _ _ => none
  | n + 1 => fun σ x1 x2 x3 => fX3_layOutWays_b15 rc2 (fX3_layOutWays_l15 rc2 n) σ x1 x2 x3 
def fX3_layOutWays_b2 (rc2 : St → Int32 → Int32 → Option (Unit × St)) (σ : St) (x1 : Int32) (x2 : Int32) : Option (Unit × St) :=
  if (σ.2.1 0) ≤ x2 then some ((), σ) else fX3_layOutWays_l15 rc2 gF σ x1 x2 (0 : Int32)
def fX3_layOutWays_l2 : Nat → St → Int32 → Int32 → Option (Unit × St)
  | 0 => fun _ _ _ => none
  | n + 1 => fun σ x1 x2 => fX3_layOutWays_b2 (fX3_layOutWays_l2 n) σ x1 x2 
def fX3_layOutWays (σ : St) (x1 : Int32) : Option (Unit × St) :=
  fX3_layOutWays_l2 gF σ x1 (0 : Int32)
def fX4_withoutWriter (σ : St) (x1 : Int32) (x2 : Int32) : Option (Int32 × St) :=
  if ib x1 6 = true then if (σ.1 15 x1.toNatClampNeg) = (-6 : Int32) then some (x2, σ) else some ((x2 &&& (((((1 : Int32) <<< ((σ.1 15 x1.toNatClampNeg) &&& 31))) ^^^ (-1 : Int32)))), σ) else none
def fX7_put_9 (σ : St) (x1 : Int32) (x2 : Int32) : Option (Unit × St) :=
  if ib x1 6 = true then if ib x1 6 = true then some ((), (uI ((uI ((uA σ 26 x1.toNatClampNeg (((σ.1 26 x1.toNatClampNeg) + x2)))) 6 ((((((uA σ 26 x1.toNatClampNeg (((σ.1 26 x1.toNatClampNeg) + x2)))).2.1 6)) + x2)))) 7 ((((((uI ((uA σ 26 x1.toNatClampNeg (((σ.1 26 x1.toNatClampNeg) + x2)))) 6 ((((((uA σ 26 x1.toNatClampNeg (((σ.1 26 x1.toNatClampNeg) + x2)))).2.1 6)) + x2)))).2.1 7)) + (x1 * x2))))) else none else none
def fX8_hasBit (σ : St) (x0 : Int32) (x1 : Int32) : Option (Int32 × St) :=
  if ((((x0 >>> (x1 &&& 31))) &&& (1 : Int32))) = (1 : Int32) then some ((1 : Int32), σ) else some ((0 : Int32), σ)
