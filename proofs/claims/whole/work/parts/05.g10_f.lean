def fX9_swap_b62 (rc4 : St → Int32 → Int32 → Int32 → Option (Int32 × St)) (rc17 : St → Int32 → Int32 → Int32 → Int32 → Option (Int32 × St)) (σ : St) (x1 : Int32) (x2 : Int32) (x3 : Int32) (x4 : Int32) : Option (Int32 × St) :=
  rc17 σ x1 x2 x3 (x4 + (1 : Int32))
def fX9_swap_b17 (rc4 : St → Int32 → Int32 → Int32 → Option (Int32 × St)) (rc17 : St → Int32 → Int32 → Int32 → Int32 → Option (Int32 × St)) (σ : St) (x1 : Int32) (x2 : Int32) (x3 : Int32) (x4 : Int32) : Option (Int32 × St) :=
  if (σ.2.1 0) ≤ x4 then rc4 σ x1 x2 (x3 + (1 : Int32)) else Option.bind (fX9_gave σ x3 x4) fun q2 => if q2.1 = 0 then fX9_swap_b62 rc4 rc17 q2.2 x1 x2 x3 x4 else Option.bind (fX9_gave q2.2 x4 x3) fun q5 => if q5.1 = 0 then fX9_swap_b62 rc4 rc17 q5.2 x1 x2 x3 x4 else if x2 = x1 then some (((((10 : Int32) * x3)) + x4), q5.2) else fX9_swap_b62 rc4 rc17 q5.2 x1 (x2 + (1 : Int32)) x3 x4
def fX9_swap_l17 (rc4 : St → Int32 → Int32 → Int32 → Option (Int32 × St)) : Nat → St → Int32 → Int32 → Int32 → Int32 → Option (Int32 × St)
  | 0 => fun _ _ _ _ _ => none
  | n + 1 => fun σ x1 x2 x3 x4 => fX9_swap_b17 rc4 (fX9_swap_l17 rc4 n) σ x1 x2 x3 x4 
def fX9_swap_b4 (rc4 : St → Int32 → Int32 → Int32 → Option (Int32 × St)) (σ : St) (x1 : Int32) (x2 : Int32) (x3 : Int32) : Option (Int32 × St) :=
  if (σ.2.1 0) ≤ x3 then if x1 = (-1 : Int32) then some (x2, σ) else some ((-6 : Int32), σ) else fX9_swap_l17 rc4 gF σ x1 x2 x3 (x3 + (1 : Int32))
def fX9_swap_l4 : Nat → St → Int32 → Int32 → Int32 → Option (Int32 × St)
  | 0 => fun _ _ _ _ => none
  | n + 1 => fun σ x1 x2 x3 => fX9_swap_b4 (fX9_swap_l4 n) σ x1 x2 x3 
def fX9_swap (σ : St) (x1 : Int32) : Option (Int32 × St) :=
  fX9_swap_l4 gF σ x1 (0 : Int32) (0 : Int32)
def fX9_ring_b100 (rc4 : St → Int32 → Int32 → Int32 → Option (Int32 × St)) (rc17 : St → Int32 → Int32 → Int32 → Int32 → Option (Int32 × St)) (rc31 : St → Int32 → Int32 → Int32 → Int32 → Int32 → Option (Int32 × St)) (σ : St) (x1 : Int32) (x2 : Int32) (x3 : Int32) (x4 : Int32) (x5 : Int32) : Option (Int32 × St) :=
  rc31 σ x1 x2 x3 x4 (x5 + (1 : Int32))
def fX9_ring_b31 (rc4 : St → Int32 → Int32 → Int32 → Option (Int32 × St)) (rc17 : St → Int32 → Int32 → Int32 → Int32 → Option (Int32 × St)) (rc31 : St → Int32 → Int32 → Int32 → Int32 → Int32 → Option (Int32 × St)) (σ : St) (x1 : Int32) (x2 : Int32) (x3 : Int32) (x4 : Int32) (x5 : Int32) : Option (Int32 × St) :=
  if (σ.2.1 0) ≤ x5 then rc17 σ x1 x2 x3 (x4 + (1 : Int32)) else if x4 = x5 then fX9_ring_b100 rc4 rc17 rc31 σ x1 x2 x3 x4 x5 else Option.bind (fX9_gave σ x3 x4) fun q3 => if q3.1 = 0 then fX9_ring_b100 rc4 rc17 rc31 q3.2 x1 x2 x3 x4 x5 else Option.bind (fX9_gave q3.2 x4 x5) fun q6 => if q6.1 = 0 then fX9_ring_b100 rc4 rc17 rc31 q6.2 x1 x2 x3 x4 x5 else Option.bind (fX9_gave q6.2 x5 x3) fun q9 => if q9.1 = 0 then fX9_ring_b100 rc4 rc17 rc31 q9.2 x1 x2 x3 x4 x5 else if x2 = x1 then some (((((((100 : Int32) * x3)) + (((10 : Int32) * x4)))) + x5), q9.2) else fX9_ring_b100 rc4 rc17 rc31 q9.2 x1 (x2 + (1 : Int32)) x3 x4 x5
def fX9_ring_l31 (rc4 : St → Int32 → Int32 → Int32 → Option (Int32 × St)) (rc17 : St → Int32 → Int32 → Int32 → Int32 → Option (Int32 × St)) : Nat → St → Int32 → Int32 → Int32 → Int32 → Int32 → Option (Int32 × St)
  | 0 => fun _ _ _ _ _ _ => none
  | n + 1 => fun σ x1 x2 x3 x4 x5 => fX9_ring_b31 rc4 rc17 (fX9_ring_l31 rc4 rc17 n) σ x1 x2 x3 x4 x5 
def fX9_ring_b17 (rc4 : St → Int32 → Int32 → Int32 → Option (Int32 × St)) (rc17 : St → Int32 → Int32 → Int32 → Int32 → Option (Int32 × St)) (σ : St) (x1 : Int32) (x2 : Int32) (x3 : Int32) (x4 : Int32) : Option (Int32 × St) :=
  if (σ.2.1 0) ≤ x4 then rc4 σ x1 x2 (x3 + (1 : Int32)) else fX9_ring_l31 rc4 rc17 gF σ x1 x2 x3 x4 (x3 + (1 : Int32))
def fX9_ring_l17 (rc4 : St → Int32 → Int32 → Int32 → Option (Int32 × St)) : Nat → St → Int32 → Int32 → Int32 → Int32 → Option (Int32 × St)
  | 0 => fun _ _ _ _ _ => none
  | n + 1 => fun σ x1 x2 x3 x4 => fX9_ring_b17 rc4 (fX9_ring_l17 rc4 n) σ x1 x2 x3 x4 
def fX9_ring_b4 (rc4 : St → Int32 → Int32 → Int32 → Option (Int32 × St)) (σ : St) (x1 : Int32) (x2 : Int32) (x3 : Int32) : Option (Int32 × St) :=
  if (σ.2.1 0) ≤ x3 then if x1 = (-1 : Int32) then some (x2, σ) else some ((-6 : Int32), σ) else fX9_ring_l17 rc4 gF σ x1 x2 x3 (x3 + (1 : Int32))
def fX9_ring_l4 : Nat → St → Int32 → Int32 → Int32 → Option (Int32 × St)
  | 0 => fun _ _ _ _ => none
  | n + 1 => fun σ x1 x2 x3 => fX9_ring_b4 (fX9_ring_l4 n) σ x1 x2 x3 
def fX9_ring (σ : St) (x1 : Int32) : Option (Int32 × St) :=
  fX9_ring_l4 gF σ x1 (0 : Int32) (0 : Int32)
def fX9_seen_b101 (σ : St) (x2 : Int32) (x3 : Int32) (t0 : Int32) : Option (Int32 × St) :=
  if x2 = 0 then some (x3, σ) else if t0 = 0 then some ((0 : Int32), σ) else some ((1 : Int32), σ)
def fX9_seen_b100 (σ : St) (x2 : Int32) (x3 : Int32) : Option (Int32 × St) :=
  fX9_seen_b101 σ x2 x3 (0 : Int32)
def fX9_seen_b65 (rc28 : St → Int32 → Int32 → Int32 → Int32 → Option (Int32 × St)) (σ : St) (x1 : Int32) (x2 : Int32) (x4 : Int32) (t0 : Int32) (t1 : Int32) : Option (Int32 × St) :=
  rc28 σ x1 x2 (t0 ||| t1) (x4 + (1 : Int32))
def fX9_seen_b28 (rc28 : St → Int32 → Int32 → Int32 → Int32 → Option (Int32 × St)) (σ : St) (x1 : Int32) (x2 : Int32) (x3 : Int32) (x4 : Int32) : Option (Int32 × St) :=
  if (σ.2.1 0) ≤ x4 then if ib x1 6 = true then if (σ.1 6 x1.toNatClampNeg) = (-6 : Int32) then fX9_seen_b100 σ x2 x3 else if ib x1 6 = true then if x3 = (((1 : Int32) <<< ((σ.1 6 x1.toNatClampNeg) &&& 31))) then fX9_seen_b101 σ x2 x3 (1 : Int32) else fX9_seen_b100 σ x2 x3 else none else none else if ib x1 6 = true then if ib x4 6 = true then if (((σ.1 7 x1.toNatClampNeg) &&& (((σ.1 3 x4.toNatClampNeg) ^^^ (-1 : Int32))))) = 0 then fX9_seen_b65 rc28 σ x1 x2 x4 x3 ((1 : Int32) <<< (x4 &&& 31)) else fX9_seen_b65 rc28 σ x1 x2 x4 x3 (0 : Int32) else none else none
def fX9_seen_l28 : Nat → St → Int32 → Int32 → Int32 → Int32 → Option (Int32 × St)
  | 0 => fun _ _ _ _ _ => none
  | n + 1 => fun σ x1 x2 x3 x4 => fX9_seen_b28 (fX9_seen_l28 n) σ x1 x2 x3 x4 
def fX9_seen (σ : St) (x1 : Int32) (x2 : Int32) : Option (Int32 × St) :=
  Option.bind (fX9_isPaper σ x1) fun q1 => if q1.1 = 0 then some ((-1 : Int32), q1.2) else Option.bind (fX9_in q1.2 x2.toInt64 (0 : Int64) (1 : Int64)) fun q4 => if q4.1 = 0 then some ((-2 : Int32), q4.2) else fX9_seen_l28 gF q4.2 x1 x2 (0 : Int32) (0 : Int32)
def fX9_bid (σ : St) (x1 : Int32) (x2 : Int32) (x3 : Int32) : Option (Int32 × St) :=
  Option.bind (fX9_isJudge σ x1) fun q1 => if q1.1 = 0 then some ((-1 : Int32), q1.2) else Option.bind (fX9_isPaper q1.2 x2) fun q4 => if q4.1 = 0 then some ((-1 : Int32), q4.2) else Option.bind (fX9_in q4.2 x3.toInt64 (0 : Int64) (3 : Int64)) fun q7 => if q7.1 = 0 then some ((-2 : Int32), q7.2) else Option.bind (fX9_at q7.2 x1 x2) fun q10 => if ib q10.1 36 = true then Option.bind (fX9_at q10.2 x1 x2) fun q13 => if ib q13.1 36 = true then some ((q10.2.1 10 q10.1.toNatClampNeg), (uA q13.2 10 q13.1.toNatClampNeg x3)) else none else none
def fX9_bidsOf_b40 (rc5 : St → Int32 → Int32 → Int32 → Int32 → Option (Int32 × St)) (σ : St) (x1 : Int32) (x2 : Int32) (x4 : Int32) (t0 : Int32) (t1 : Int32) : Option (Int32 × St) :=
  rc5 σ x1 x2 (t0 + t1) (x4 + (1 : Int32))
def fX9_bidsOf_b5 (rc5 : St → Int32 → Int32 → Int32 → Int32 → Option (Int32 × St)) (σ : St) (x1 : Int32) (x2 : Int32) (x3 : Int32) (x4 : Int32) : Option (Int32 × St) :=
  if (σ.2.1 0) ≤ x4 then some (x3, σ) else if ((((x2 >>> (x4 &&& 31))) &&& (1 : Int32))) = (1 : Int32) then Option.bind (fX9_at σ x4 x1) fun q3 => if ib q3.1 36 = true then fX9_bidsOf_b40 rc5 q3.2 x1 x2 x4 x3 (q3.2.1 10 q3.1.toNatClampNeg) else none else fX9_bidsOf_b40 rc5 σ x1 x2 x4 x3 (0 : Int32)
def fX9_bidsOf_l5 : Nat → St → Int32 → Int32 → Int32 → Int32 → Option (Int32 × St)
  | 0 => fun _ _ _ _ _ => none
  | n + 1 => fun σ x1 x2 x3 x4 => fX9_bidsOf_b5 (fX9_bidsOf_l5 n) σ x1 x2 x3 x4 
def fX9_bidsOf (σ : St) (x1 : Int32) (x2 : Int32) : Option (Int32 × St) :=
  fX9_bidsOf_l5 gF σ x1 x2 (0 : Int32) (0 : Int32)
def fX9_isFit_b66 (rc28 : St → Int32 → Int32 → Int32 → Int32 → Option (Int32 × St)) (σ : St) (x1 : Int32) (x2 : Int32) (x5 : Int32) (t0 : Int32) : Option (Int32 × St) :=
  rc28 σ x1 x2 t0 (x5 + (1 : Int32))
def fX9_isFit_b65 (rc28 : St → Int32 → Int32 → Int32 → Int32 → Option (Int32 × St)) (σ : St) (x1 : Int32) (x2 : Int32) (x5 : Int32) : Option (Int32 × St) :=
  fX9_isFit_b66 rc28 σ x1 x2 x5 (0 : Int32)
def fX9_isFit_b61 (rc28 : St → Int32 → Int32 → Int32 → Int32 → Option (Int32 × St)) (σ : St) (x1 : Int32) (x2 : Int32) (x5 : Int32) : Option (Int32 × St) :=
  fX9_isFit_b66 rc28 σ x1 x2 x5 (1 : Int32)
def fX9_isFit_b28 (rc28 : St → Int32 → Int32 → Int32 → Int32 → Option (Int32 × St)) (σ : St) (x1 : Int32) (x2 : Int32) (x4 : Int32) (x5 : Int32) : Option (Int32 × St) :=
  if (σ.2.1 0) ≤ x5 then if x4 = 0 ∨ x4 = 1 then some (x4, σ) else none else if x4 = 0 then fX9_isFit_b65 rc28 σ x1 x2 x5 else if ((((x2 >>> (x5 &&& 31))) &&& (1 : Int32))) = 0 then fX9_isFit_b61 rc28 σ x1 x2 x5 else Option.bind (fX9_tieWith σ x5 x1) fun q5 => if q5.1 < 0 then fX9_isFit_b65 rc28 q5.2 x1 x2 x5 else fX9_isFit_b61 rc28 q5.2 x1 x2 x5
def fX9_isFit_l28 : Nat → St → Int32 → Int32 → Int32 → Int32 → Option (Int32 × St)
  | 0 => fun _ _ _ _ _ => none
  | n + 1 => fun σ x1 x2 x4 x5 => fX9_isFit_b28 (fX9_isFit_l28 n) σ x1 x2 x4 x5 
def fX9_isFit_b23 (σ : St) (x1 : Int32) (x2 : Int32) (t0 : Int32) : Option (Int32 × St) :=
  fX9_isFit_l28 gF σ x1 x2 t0 (0 : Int32)
def fX9_isFit_b22 (σ : St) (x1 : Int32) (x2 : Int32) : Option (Int32 × St) :=
  fX9_isFit_b23 σ x1 x2 (0 : Int32)
def fX9_isFit (σ : St) (x1 : Int32) (x2 : Int32) (x3 : Int32) : Option (Int32 × St) :=
  Option.bind (fX9_ones σ x2) fun q1 => if q1.1 = x3 then Option.bind (fX9_without q1.2 x1 x2) fun q4 => if q4.1 = x2 then fX9_isFit_b23 q4.2 x1 x2 (1 : Int32) else fX9_isFit_b22 q4.2 x1 x2 else fX9_isFit_b22 q1.2 x1 x2
def fX9_loadsBy_b12 (rc12 : St → Int32 → Int32 → Int32 → Int32 → Int32 → Int32 → Option (Int32 × St)) (σ : St) (x2 : Int32) (x3 : Int32) (x4 : Int32) (x5 : Int32) (x6 : Int32) (x7 : Int32) : Option (Int32 × St) :=
  if (6 : Int32) ≤ x7 then some (x6, σ) else if ((((x4 - x4 / (5 : Int32) * (5 : Int32))) + ((((x2 >>> (x7 &&& 31))) &&& (1 : Int32))))) ≤ x3 then rc12 σ x2 x3 (x4 / (5 : Int32)) (x5 * (5 : Int32)) (x6 + ((x5 * ((((x4 - x4 / (5 : Int32) * (5 : Int32))) + ((((x2 >>> (x7 &&& 31))) &&& (1 : Int32)))))))) (x7 + (1 : Int32)) else some ((-6 : Int32), σ)
def fX9_loadsBy_l12 : Nat → St → Int32 → Int32 → Int32 → Int32 → Int32 → Int32 → Option (Int32 × St)
  | 0 => fun _ _ _ _ _ _ _ => none
  | n + 1 => fun σ x2 x3 x4 x5 x6 x7 => fX9_loadsBy_b12 (fX9_loadsBy_l12 n) σ x2 x3 x4 x5 x6 x7 
def fX9_loadsBy (σ : St) (x1 : Int32) (x2 : Int32) (x3 : Int32) : Option (Int32 × St) :=
  fX9_loadsBy_l12 gF σ x2 x3 x1 (1 : Int32) (0 : Int32) (0 : Int32)
def fX9_bringsOf_b51 (σ : St) (x1 : Int32) (x3 : Int32) (t0 : Int32) : Option (Int32 × St) :=
  if 0 ≤ t0 then Option.bind (fX9_bidsOf σ x1 x3) fun q2 => some ((t0 + q2.1), q2.2) else some ((-6 : Int32), σ)
def fX9_bringsOf_b24 (σ : St) (x1 : Int32) (x3 : Int32) (t0 : Int32) : Option (Int32 × St) :=
  if 0 ≤ t0 then if ib (((((15625 : Int32) * ((x1 + (1 : Int32))))) + t0)) 109375 = true then fX9_bringsOf_b51 σ x1 x3 (σ.1 16 (((((15625 : Int32) * ((x1 + (1 : Int32))))) + t0)).toNatClampNeg) else none else fX9_bringsOf_b51 σ x1 x3 (-6 : Int32)
def fX9_bringsOf (σ : St) (x1 : Int32) (x2 : Int32) (x3 : Int32) (x4 : Int32) (x5 : Int32) : Option (Int32 × St) :=
  Option.bind (fX9_isFit σ x1 x3 x4) fun q1 => if q1.1 = 0 then fX9_bringsOf_b24 q1.2 x1 x3 (-6 : Int32) else Option.bind (fX9_loadsBy q1.2 x2 x3 x5) fun q4 => fX9_bringsOf_b24 q4.2 x1 x3 q4.1
def fX9_totalOf_b4 (rc4 : St → Int32 → Int32 → Option (Int32 × St)) (σ : St) (x1 : Int32) (x2 : Int32) : Option (Int32 × St) :=
  if x2 ≤ 0 then some (x1, σ) else rc4 σ (x1 + ((x2 - x2 / (5 : Int32) * (5 : Int32)))) (x2 / (5 : Int32))
def fX9_totalOf_l4 : Nat → St → Int32 → Int32 → Option (Int32 × St)
  | 0 => fun _ _ _ => none
  | n + 1 => fun σ x1 x2 => fX9_totalOf_b4 (fX9_totalOf_l4 n) σ x1 x2 
def fX9_totalOf (σ : St) (x0 : Int32) : Option (Int32 × St) :=
  fX9_totalOf_l4 gF σ (0 : Int32) x0
