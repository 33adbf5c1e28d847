def fX9_seen_b101 (σ : St) (x2 : Int32) (x3 : Int32) (t0 : Int32) : Option (Int32 × St) :=
  if x2 = 0 then some (x3, σ) else if t0 = 0 then some ((0 : Int32), σ) else some ((1 : Int32), σ)
def fX9_seen_b100 (σ : St) (x2 : Int32) (x3 : Int32) : Option (Int32 × St) :=
  fX9_seen_b101 σ x2 x3 (0 : Int32)
def fX9_seen_b65 (rc28 : St → Int32 → Int32 → Int32 → Int32 → Option (Int32 × St)) (σ : St) (x1 : Int32) (x2 : Int32) (x4 : Int32) (t0 : Int32) (t1 : Int32) : Option (Int32 × St) :=
  rc28 σ x1 x2 (t0 ||| t1) (x4 + (1 : Int32))
def fX9_seen_b28 (rc28 : St → Int32 → Int32 → Int32 → Int32 → Option (Int32 × St)) (σ : St) (x1 : Int32) (x2 : Int32) (x3 : Int32) (x4 : Int32) : Option (Int32 × St) :=
  if (σ.2.1 0) ≤ x4 then if ib x1 6 = true then if (σ.1 6 x1.toNatClampNeg) = (-6 : Int32) then fX9_seen_b100 σ x2 x3 else if ib x1 6 = true then if x3 = (((1 : Int32) <<< ((σ.1 6 x1.toNatClampNeg) &&& 31))) then fX9_seen_b101 σ x2 x3 (1 : Int32) else fX9_seen_b100 σ x2 x3 else none else none else if ib x1 6 = true then if ib x4 6 = true then if (((σ.1 7 x1.toNatClampNeg) &&& (((σ.1 3 x4.toNatClampNeg) ^^^ (-1 : Int32))))) = 0 then fX9_seen_b65 rc28 σ x1 x2 x4 x3 ((1 : Int32) <<< (x4 &&& 31)) else fX9_seen_b65 rc28 σ x1 x2 x4 x3 (0 : Int32) else none else none
def fX9_seen_l28 : Nat → St → Int32 → Int32 → Int32 → Int32 → Option (Int32 × St)
  | 0 => fun _ _ _ _ _ => none
  | n + 1 => fun σ x1 x2 x3 x4 => fX9_seen_b28 (fX9_seen_l28 n) σ x1 x2 x3 x4 
def fX9_seen (σ : St) (x1 : Int32) (x2 : Int32) : Option (Int32 × St) :=
  Option.bind (fX9_isPaper σ x1) fun q1 => if q1.1 = 0 then some ((-1 : Int32), q1.2) else Option.bind (fX9_in q1.2 x2.toInt64 (0 : Int64) (1 : Int64)) fun q4 => if q4.1 = 0 then some ((-2 : Int32), q4.2) else fX9_seen_l28 gF q4.2 x1 x2 (0 : Int32) (0 : Int32)
def fX9_bid (σ : St) (x1 : Int32) (x2 : Int32) (x3 : Int32) : Option (Int32 × St) :=
  Option.bind (fX9_isJudge σ x1) fun q1 => if q1.1 = 0 then some ((-1 : Int32), q1.2) else Option.bind (fX9_isPaper q1.2 x2) fun q4 => if q4.1 = 0 then some ((-1 : Int32), q4.2) else Option.bind (fX9_in q4.2 x3.toInt64 (0 : Int64) (3 : Int64)) fun q7 => if q7.1 = 0 then some ((-2 : Int32), q7.2) else Option.bind (fX9_at q7.2 x1 x2) fun q10 => if ib q10.1 36 = true then Option.bind (fX9_at q10.2 x1 x2) fun q13 => if ib q13.1 36 = true then some ((q10.2.1 10 q10.1.toNatClampNeg), (uA q13.2 10 q13.1.toNatClampNeg x3)) else none else none
def fX9_bidsOf_b40 (rc5 : St → Int32 → Int32 → Int32 → Int32 → Option (Int32 × St)) (σ : St) (x1 : Int32) (x2 : Int32) (x4 : Int32) (t0 : Int32) (t1 : Int32) : Option (Int32 × St) :=
  rc5 σ x1 x2 (t0 + t1) (x4 + (1 : Int32))
def fX9_bidsOf_b5 (rc5 : St → Int32 → Int32 → Int32 → Int32 → Option (Int32 × St)) (σ : St) (x1 : Int32) (x2 : Int32) (x3 : Int32) (x4 : Int32) : Option (Int32 × St) :=
  if (σ.2.1 0) ≤ x4 then some (x3, σ) else if ((((x2 >>> (x4 &&& 31))) &&& (1 : Int32))) = (1 : Int32) then Option.bind (fX9_at σ x4 x1) fun q3 => if ib q3.1 36 = true then fX9_bidsOf_b40 rc5 q3.2 x1 x2 x4 x3 (q3.2.1 10 q3.1.toNatClampNeg) else none else fX9_bidsOf_b40 rc5 σ x1 x2 x4 x3 (0 : Int32)
def fX9_bidsOf_l5 : Nat → St → Int32 → Int32 → Int32 → Int32 → Option (Int32 × St)
  | 0 => fun _ _ _ _ _ => none
  | n + 1 => fun σ x1 x2 x3 x4 => fX9_bidsOf_b5 (fX9_bidsOf_l5 n) σ x1 x2 x3 x4 
def fX9_bidsOf (σ : St) (x1 : Int32) (x2 : Int32) : Option (Int32 × St) :=
  fX9_bidsOf_l5 gF σ x1 x2 (0 : Int32) (0 : Int32)
def fX9_isFit_b66 (rc28 : St → Int32 → Int32 → Int32 → Int32 → Option (Int32 × St)) (σ : St) (x1 : Int32) (x2 : Int32) (x5 : Int32) (t0 : Int32) : Option (Int32 × St) :=
  rc28 σ x1 x2 t0 (x5 + (1 : Int32))
def fX9_isFit_b65 (rc28 : St → Int32 → Int32 → Int32 → Int32 → Option (Int32 × St)) (σ : St) (x1 : Int32) (x2 : Int32) (x5 : Int32) : Option (Int32 × St) :=
  fX9_isFit_b66 rc28 σ x1 x2 x5 (0 : Int32)
def fX9_isFit_b61 (rc28 : St → Int32 → Int32 → Int32 → Int32 → Option (Int32 × St)) (σ : St) (x1 : Int32) (x2 : Int32) (x5 : Int32) : Option (Int32 × St) :=
  fX9_isFit_b66 rc28 σ x1 x2 x5 (1 : Int32)
def fX9_isFit_b28 (rc28 : St → Int32 → Int32 → Int32 → Int32 → Option (Int32 × St)) (σ : St) (x1 : Int32) (x2 : Int32) (x4 : Int32) (x5 : Int32) : Option (Int32 × St) :=
  if (σ.2.1 0) ≤ x5 then if x4 = 0 ∨ x4 = 1 then some (x4, σ) else none else if x4 = 0 then fX9_isFit_b65 rc28 σ x1 x2 x5 else if ((((x2 >>> (x5 &&& 31))) &&& (1 : Int32))) = 0 then fX9_isFit_b61 rc28 σ x1 x2 x5 else Option.bind (fX9_tieWith σ x5 x1) fun q5 => if q5.1 < 0 then fX9_isFit_b65 rc28 q5.2 x1 x2 x5 else fX9_isFit_b61 rc28 q5.2 x1 x2 x5
def fX9_isFit_l28 : Nat → St → Int32 → Int32 → Int32 → Int32 → Option (Int32 × St)
  | 0 => fun _ _ _ _ _ => none
  | n + 1 => fun σ x1 x2 x4 x5 => fX9_isFit_b28 (fX9_isFit_l28 n) σ x1 x2 x4 x5 
def fX9_isFit_b23 (σ : St) (x1 : Int32) (x2 : Int32) (t0 : Int32) : Option (Int32 × St) :=
  fX9_isFit_l28 gF σ x1 x2 t0 (0 : Int32)
def fX9_isFit_b22 (σ : St) (x1 : Int32) (x2 : Int32) : Option (Int32 × St) :=
  fX9_isFit_b23 σ x1 x2 (0 : Int32)
def fX9_isFit (σ : St) (x1 : Int32) (x2 : Int32) (x3 : Int32) : Option (Int32 × St) :=
  Option.bind (fX9_ones σ x2) fun q1 => if q1.1 = x3 then Option.bind (fX9_without q1.2 x1 x2) fun q4 => if q4.1 = x2 then fX9_isFit_b23 q4.2 x1 x2 (1 : Int32) else fX9_isFit_b22 q4.2 x1 x2 else fX9_isFit_b22 q1.2 x1 x2
def fX9_loadsBy_b12 (rc12 : St → Int32 → Int32 → Int32 → Int32 → Int32 → Int32 → Option (Int32 × St)) (σ : St) (x2 : Int32) (x3 : Int32) (x4 : Int32) (x5 : Int32) (x6 : Int32) (x7 : Int32) : Option (Int32 × St) :=
  if (6 : Int32) ≤ x7 then some (x6, σ) else if ((((x4 - x4 / (5 : Int32) * (5 : Int32))) + ((((x2 >>> (x7 &&& 31))) &&& (1 : Int32))))) ≤ x3 then rc12 σ x2 x3 (x4 / (5 : Int32)) (x5 * (5 : Int32)) (x6 + ((x5 * ((((x4 - x4 / (5 : Int32) * (5 : Int32))) + ((((x2 >>> (x7 &&& 31))) &&& (1 : Int32)))))))) (x7 + (1 : Int32)) else some ((-6 : Int32), σ)
def fX9_loadsBy_l12 : Nat → St → Int32 → Int32 → Int32 → Int32 → Int32 → Int32 → Option (Int32 × St)
  | 0 => fun _ _ _ _ _ _ _ => none
  | n + 1 => fun σ x2 x3 x4 x5 x6 x7 => fX9_loadsBy_b12 (fX9_loadsBy_l12 n) σ x2 x3 x4 x5 x6 x7 
def fX9_loadsBy (σ : St) (x1 : Int32) (x2 : Int32) (x3 : Int32) : Option (Int32 × St) :=
  fX9_loadsBy_l12 gF σ x2 x3 x1 (1 : Int32) (0 : Int32) (0 : Int32)
def fX9_bringsOf_b51 (σ : St) (x1 : Int32) (x3 : Int32) (t0 : Int32) : Option (Int32 × St) :=
  if 0 ≤ t0 then Option.bind (fX9_bidsOf σ x1 x3) fun q2 => some ((t0 + q2.1), q2.2) else some ((-6 : Int32), σ)
def fX9_bringsOf_b24 (σ : St) (x1 : Int32) (x3 : Int32) (t0 : Int32) : Option (Int32 × St) :=
  if 0 ≤ t0 then if ib (((((15625 : Int32) * ((x1 + (1 : Int32))))) + t0)) 109375 = true then fX9_bringsOf_b51 σ x1 x3 (σ.1 16 (((((15625 : Int32) * ((x1 + (1 : Int32))))) + t0)).toNatClampNeg) else none else fX9_bringsOf_b51 σ x1 x3 (-6 : Int32)
def fX9_bringsOf (σ : St) (x1 : Int32) (x2 : Int32) (x3 : Int32) (x4 : Int32) (x5 : Int32) : Option (Int32 × St) :=
  Option.bind (fX9_isFit σ x1 x3 x4) fun q1 => if q1.1 = 0 then fX9_bringsOf_b24 q1.2 x1 x3 (-6 : Int32) else Option.bind (fX9_loadsBy q1.2 x2 x3 x5) fun q4 => fX9_bringsOf_b24 q4.2 x1 x3 q4.1
def fX9_totalOf_b4 (rc4 : St → Int32 → Int32 → Option (Int32 × St)) (σ : St) (x1 : Int32) (x2 : Int32) : Option (Int32 × St) :=
  if x2 ≤ 0 then some (x1, σ) else rc4 σ (x1 + ((x2 - x2 / (5 : Int32) * (5 : Int32)))) (x2 / (5 : Int32))
def fX9_totalOf_l4 : Nat → St → Int32 → Int32 → Option (Int32 × St)
  | 0 => fun _ _ _ => none
  | n + 1 => fun σ x1 x2 => fX9_totalOf_b4 (fX9_totalOf_l4 n) σ x1 x2 
def fX9_totalOf (σ : St) (x0 : Int32) : Option (Int32 × St) :=
  fX9_totalOf_l4 gF σ (0 : Int32) x0
def fX9_findMost_b142 (rc38 : St → Int32 → Int32 → Int32 → Option (Unit × St)) (rc45 : St → Int32 → Int32 → Int32 → Int32 → Option (Unit × St)) (σ : St) (x1 : Int32) (x2 : Int32) (x3 : Int32) (x4 : Int32) (x5 : Int32) : Option (Unit × St) :=
  if ib (((((15625 : Int32) * x3)) + x4)) 109375 = true then rc45 (uA σ 16 (((((15625 : Int32) * x3)) + x4)).toNatClampNeg x5) x1 x2 x3 (x4 + (1 : Int32)) else none
def fX9_findMost_b134 (rc38 : St → Int32 → Int32 → Int32 → Option (Unit × St)) (rc45 : St → Int32 → Int32 → Int32 → Int32 → Option (Unit × St)) (rc82 : St → Int32 → Int32 → Int32 → Int32 → Int32 → Int32 → Option (Unit × St)) (σ : St) (x1 : Int32) (x2 : Int32) (x3 : Int32) (x4 : Int32) (x6 : Int32) (t0 : Int32) : Option (Unit × St) :=
  rc82 σ x1 x2 x3 x4 t0 (x6 + (1 : Int32))
def fX9_findMost_b118 (rc38 : St → Int32 → Int32 → Int32 → Option (Unit × St)) (rc45 : St → Int32 → Int32 → Int32 → Int32 → Option (Unit × St)) (rc82 : St → Int32 → Int32 → Int32 → Int32 → Int32 → Int32 → Option (Unit × St)) (σ : St) (x1 : Int32) (x2 : Int32) (x3 : Int32) (x4 : Int32) (x5 : Int32) (x6 : Int32) (t0 : Int32) : Option (Unit × St) :=
  if t0 ≤ x5 then fX9_findMost_b134 rc38 rc45 rc82 σ x1 x2 x3 x4 x6 x5 else fX9_findMost_b134 rc38 rc45 rc82 σ x1 x2 x3 x4 x6 t0
def fX9_findMost_b82 (rc38 : St → Int32 → Int32 → Int32 → Option (Unit × St)) (rc45 : St → Int32 → Int32 → Int32 → Int32 → Option (Unit × St)) (rc82 : St → Int32 → Int32 → Int32 → Int32 → Int32 → Int32 → Option (Unit × St)) (σ : St) (x1 : Int32) (x2 : Int32) (x3 : Int32) (x4 : Int32) (x5 : Int32) (x6 : Int32) : Option (Unit × St) :=
  if (((1 : Int32) <<< ((σ.2.1 0) &&& 31))) ≤ x6 then fX9_findMost_b142 rc38 rc45 σ x1 x2 x3 x4 x5 else Option.bind (fX9_ones σ x6) fun q2 => if q2.1 = x1 then Option.bind (fX9_bringsOf q2.2 x3 x4 x6 x1 x2) fun q5 => fX9_findMost_b118 rc38 rc45 rc82 q5.2 x1 x2 x3 x4 x5 x6 q5.1 else fX9_findMost_b118 rc38 rc45 rc82 q2.2 x1 x2 x3 x4 x5 x6 (-6 : Int32)
def fX9_findMost_l82 (rc38 : St → Int32 → Int32 → Int32 → Option (Unit × St)) (rc45 : St → Int32 → Int32 → Int32 → Int32 → Option (Unit × St)) : Nat → St → Int32 → Int32 → Int32 → Int32 → Int32 → Int32 → Option (Unit × St)
  | 0 => fun _ _ _ _ _ _ _ => none
  | n + 1 => fun σ x1 x2 x3 x4 x5 x6 => fX9_findMost_b82 rc38 rc45 (fX9_findMost_l82 rc38 rc45 n) σ x1 x2 x3 x4 x5 x6 
def fX9_findMost_b45 (rc38 : St → Int32 → Int32 → Int32 → Option (Unit × St)) (rc45 : St → Int32 → Int32 → Int32 → Int32 → Option (Unit × St)) (σ : St) (x1 : Int32) (x2 : Int32) (x3 : Int32) (x4 : Int32) : Option (Unit × St) :=
  if (15625 : Int32) ≤ x4 then rc38 σ x1 x2 (x3 + (-1 : Int32)) else Option.bind (fX9_totalOf σ x4) fun q2 => if q2.1 = (x1 * x3) then Option.bind (fX9_loadsBy q2.2 x4 (0 : Int32) x2) fun q5 => if q5.1 < 0 then fX9_findMost_b142 rc38 rc45 q5.2 x1 x2 x3 x4 (-6 : Int32) else fX9_findMost_l82 rc38 rc45 gF q5.2 x1 x2 x3 x4 (-6 : Int32) (0 : Int32) else fX9_findMost_b142 rc38 rc45 q2.2 x1 x2 x3 x4 (-6 : Int32)
def fX9_findMost_l45 (rc38 : St → Int32 → Int32 → Int32 → Option (Unit × St)) : Nat → St → Int32 → Int32 → Int32 → Int32 → Option (Unit × St)
  | 0 => fun _ _ _ _ _ => none
  | n + 1 => fun σ x1 x2 x3 x4 => fX9_findMost_b45 rc38 (fX9_findMost_l45 rc38 n) σ x1 x2 x3 x4 
def fX9_findMost_b38 (rc38 : St → Int32 → Int32 → Int32 → Option (Unit × St)) (σ : St) (x1 : Int32) (x2 : Int32) (x3 : Int32) : Option (Unit × St) :=
  if x3 < 0 then some ((), σ) else fX9_findMost_l45 rc38 gF σ x1 x2 x3 (0 : Int32)
def fX9_findMost_l38 : Nat → St → Int32 → Int32 → Int32 → Option (Unit × St)
  | 0 => fun _ _ _ _ => none
  | n + 1 => fun σ x1 x2 x3 => fX9_findMost_b38 (fX9_findMost_l38 n) σ x1 x2 x3 
def fX9_findMost_b2 (rc2 : St → Int32 → Int32 → Int32 → Option (Unit × St)) (σ : St) (x1 : Int32) (x2 : Int32) (x3 : Int32) : Option (Unit × St) :=
  if (15625 : Int32) ≤ x3 then fX9_findMost_l38 gF σ x1 x2 ((σ.2.1 1) - (1 : Int32)) else if ib (((((15625 : Int32) * (σ.2.1 1))) + x3)) 109375 = true then rc2 (uA σ 16 (((((15625 : Int32) * (σ.2.1 1))) + x3)).toNatClampNeg (0 : Int32)) x1 x2 (x3 + (1 : Int32)) else none
def fX9_findMost_l2 : Nat → St → Int32 → Int32 → Int32 → Option (Unit × St)
  | 0 => fun _ _ _ _ => none
  | n + 1 => fun σ x1 x2 x3 => fX9_findMost_b2 (fX9_findMost_l2 n) σ x1 x2 x3 
def fX9_findMost (σ : St) (x1 : Int32) (x2 : Int32) : Option (Unit × St) :=
  fX9_findMost_l2 gF σ x1 x2 (0 : Int32)
def fX9_match_b90 (rc81 : St → Int32 → Int32 → Int32 → Int32 → Int32 → Int32 → Option (Int32 × St)) (rc90 : St → Int32 → Int32 → Int32 → Int32 → Int32 → Int32 → Option (Int32 × St)) (σ : St) (x1 : Int32) (x2 : Int32) (x3 : Int32) (x4 : Int32) (x5 : Int32) (x6 : Int32) : Option (Int32 × St) :=
  Option.bind (fX9_bringsOf σ x6 x4 x5 x1 x2) fun q1 => if ib (((((15625 : Int32) * x6)) + x4)) 109375 = true then if q1.1 = ((q1.2.1 16 (((((15625 : Int32) * x6)) + x4)).toNatClampNeg)) then Option.bind (fX9_loadsBy q1.2 x4 x5 x2) fun q5 => rc81 q5.2 x1 x2 x3 q5.1 x5 (x6 + (1 : Int32)) else rc90 q1.2 x1 x2 x3 x4 (x5 + (1 : Int32)) x6 else none
def fX9_match_l90 (rc81 : St → Int32 → Int32 → Int32 → Int32 → Int32 → Int32 → Option (Int32 × St)) : Nat → St → Int32 → Int32 → Int32 → Int32 → Int32 → Int32 → Option (Int32 × St)
  | 0 => fun _ _ _ _ _ _ _ => none
  | n + 1 => fun σ x1 x2 x3 x4 x5 x6 => fX9_match_b90 rc81 (fX9_match_l90 rc81 n) σ x1 x2 x3 x4 x5 x6 
def fX9_match_b81 (rc81 : St → Int32 → Int32 → Int32 → Int32 → Int32 → Int32 → Option (Int32 × St)) (σ : St) (x1 : Int32) (x2 : Int32) (x3 : Int32) (x4 : Int32) (x5 : Int32) (x6 : Int32) : Option (Int32 × St) :=
  if x3 < x6 then some (x5, σ) else fX9_match_l90 rc81 gF σ x1 x2 x3 x4 (0 : Int32) x6
def fX9_match_l81 : Nat → St → Int32 → Int32 → Int32 → Int32 → Int32 → Int32 → Option (Int32 × St)
  | 0 => fun _ _ _ _ _ _ _ => none
  | n + 1 => fun σ x1 x2 x3 x4 x5 x6 => fX9_match_b81 (fX9_match_l81 n) σ x1 x2 x3 x4 x5 x6 
def fX9_match_b15 (σ : St) (x1 : Int32) (x2 : Int32) (x3 : Int32) : Option (Int32 × St) :=
  Option.bind (fX9_in σ x1.toInt64 (1 : Int64) (3 : Int64)) fun q1 => if q1.1 = 0 then some ((-2 : Int32), q1.2) else Option.bind (fX9_in q1.2 x2.toInt64 (1 : Int64) (4 : Int64)) fun q4 => if q4.1 = 0 then some ((-2 : Int32), q4.2) else Option.bind (fX9_findMost q4.2 x1 x2) fun q7 => if 0 ≤ ((q7.2.1 16 (0 : Int32).toNatClampNeg)) then if x3 = (-1 : Int32) then some ((q7.2.1 16 (0 : Int32).toNatClampNeg), q7.2) else fX9_match_l81 gF q7.2 x1 x2 x3 (0 : Int32) (0 : Int32) (0 : Int32) else some ((-5 : Int32), q7.2)
def fX9_match (σ : St) (x1 : Int32) (x2 : Int32) (x3 : Int32) : Option (Int32 × St) :=
  if x3 = (-1 : Int32) then fX9_match_b15 σ x1 x2 x3 else Option.bind (fX9_isPaper σ x3) fun q2 => if q2.1 = 0 then some ((-1 : Int32), q2.2) else fX9_match_b15 q2.2 x1 x2 x3
