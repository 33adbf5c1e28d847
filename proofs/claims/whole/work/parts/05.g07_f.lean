def fX9_fault_b51 (σ : St) : Option (Int32 × St) :=
  some ((-6 : Int32), σ)
def fX9_fault_b4 (rc4 : St → Int32 → Int32 → Option (Int32 × St)) (σ : St) (x1 : Int32) (x2 : Int32) : Option (Int32 × St) :=
  if (σ.2.1 2) ≤ x2 then if x1 = (3 : Int32) then fX9_fault_b51 σ else if x1 = (4 : Int32) then fX9_fault_b51 σ else if x1 = (6 : Int32) then fX9_fault_b51 σ else some ((σ.2.1 2), σ) else if ib x2 40 = true then Option.bind (fX9_stepOf σ x1 (σ.1 11 x2.toNatClampNeg)) fun q6 => if 0 ≤ q6.1 then rc4 q6.2 q6.1 (x2 + (1 : Int32)) else some (x2, q6.2) else none
def fX9_fault_l4 : Nat → St → Int32 → Int32 → Option (Int32 × St)
  | 0 => fun _ _ _ => none
  | n + 1 => fun σ x1 x2 => fX9_fault_b4 (fX9_fault_l4 n) σ x1 x2 
def fX9_fault (σ : St) : Option (Int32 × St) :=
  fX9_fault_l4 gF σ (0 : Int32) (0 : Int32)
def fX9_rule_b153 (rc19 : St → Int32 → Int32 → Option (Int32 × St)) (σ : St) (x1 : Int32) (x2 : Int32) : Option (Int32 × St) :=
  rc19 σ x1 (x2 + (1 : Int32))
def fX9_rule_b88 (rc19 : St → Int32 → Int32 → Option (Int32 × St)) (σ : St) (x1 : Int32) (x2 : Int32) (x3 : Int32) : Option (Int32 × St) :=
  if ib (σ.2.1 3) 12 = true then if ib (σ.2.1 3) 12 = true then fX9_rule_b153 rc19 (uA σ 13 (σ.2.1 3).toNatClampNeg (((((((10 : Int32) * ((σ.1 13 (σ.2.1 3).toNatClampNeg)))) + x3)) - (48 : Int32)))) x1 x2 else none else none
def fX9_rule_b19 (rc19 : St → Int32 → Int32 → Option (Int32 × St)) (σ : St) (x1 : Int32) (x2 : Int32) : Option (Int32 × St) :=
  if (σ.2.1 2) ≤ x2 then some ((((uI ((uI σ 3 (((σ.2.1 3) + (1 : Int32))))) 2 (0 : Int32))).2.1 3), (uI ((uI σ 3 (((σ.2.1 3) + (1 : Int32))))) 2 (0 : Int32))) else if ib x2 40 = true then Option.bind (fX9_stepOf σ x1 (σ.1 11 x2.toNatClampNeg)) fun q3 => if q3.1 = (1 : Int32) then if ib (q3.2.2.1 3) 12 = true then if ib ((((uA q3.2 12 (q3.2.2.1 3).toNatClampNeg (σ.1 11 x2.toNatClampNeg))).2.1 3)) 12 = true then if ib ((((uA ((uA q3.2 12 (q3.2.2.1 3).toNatClampNeg (σ.1 11 x2.toNatClampNeg))) 13 ((((uA q3.2 12 (q3.2.2.1 3).toNatClampNeg (σ.1 11 x2.toNatClampNeg))).2.1 3)).toNatClampNeg (0 : Int32))).2.1 3)) 12 = true then fX9_rule_b153 rc19 (uA ((uA ((uA q3.2 12 (q3.2.2.1 3).toNatClampNeg (σ.1 11 x2.toNatClampNeg))) 13 ((((uA q3.2 12 (q3.2.2.1 3).toNatClampNeg (σ.1 11 x2.toNatClampNeg))).2.1 3)).toNatClampNeg (0 : Int32))) 14 ((((uA ((uA q3.2 12 (q3.2.2.1 3).toNatClampNeg (σ.1 11 x2.toNatClampNeg))) 13 ((((uA q3.2 12 (q3.2.2.1 3).toNatClampNeg (σ.1 11 x2.toNatClampNeg))).2.1 3)).toNatClampNeg (0 : Int32))).2.1 3)).toNatClampNeg (4 : Int32)) q3.1 x2 else none else none else none else if q3.1 = (3 : Int32) then fX9_rule_b88 rc19 q3.2 q3.1 x2 (σ.1 11 x2.toNatClampNeg) else if q3.1 = (4 : Int32) then fX9_rule_b88 rc19 q3.2 q3.1 x2 (σ.1 11 x2.toNatClampNeg) else if q3.1 = (6 : Int32) then if ib (q3.2.2.1 3) 12 = true then fX9_rule_b153 rc19 (uA q3.2 14 (q3.2.2.1 3).toNatClampNeg (((σ.1 11 x2.toNatClampNeg) - (48 : Int32)))) q3.1 x2 else none else if q3.1 = 0 then fX9_rule_b153 rc19 (uI q3.2 3 (((q3.2.2.1 3) + (1 : Int32)))) q3.1 x2 else fX9_rule_b153 rc19 q3.2 q3.1 x2 else none
def fX9_rule_l19 : Nat → St → Int32 → Int32 → Option (Int32 × St)
  | 0 => fun _ _ _ => none
  | n + 1 => fun σ x1 x2 => fX9_rule_b19 (fX9_rule_l19 n) σ x1 x2 
def fX9_rule (σ : St) : Option (Int32 × St) :=
  Option.bind (fX9_fault σ) fun q1 => if q1.1 < 0 then fX9_rule_l19 gF (uI q1.2 3 (0 : Int32)) (0 : Int32) (0 : Int32) else some ((-5 : Int32), q1.2)
def fX9_joinOf_b100 (rc18 : St → Int32 → Int32 → Int32 → Int32 → Int32 → Int32 → Int32 → Int32 → Option (Int32 × St)) (σ : St) (x1 : Int32) (x2 : Int32) (x3 : Int32) (x4 : Int32) (x5 : Int32) (x7 : Int32) (x8 : Int32) (t0 : Int32) : Option (Int32 × St) :=
  if ib x8 6 = true then rc18 σ x1 x2 x3 x4 x5 t0 (x7 + (σ.1 15 x8.toNatClampNeg)) (x8 + (1 : Int32)) else none
def fX9_joinOf_b81 (rc18 : St → Int32 → Int32 → Int32 → Int32 → Int32 → Int32 → Int32 → Int32 → Option (Int32 × St)) (σ : St) (x1 : Int32) (x2 : Int32) (x3 : Int32) (x4 : Int32) (x6 : Int32) (x7 : Int32) (x8 : Int32) (t0 : Int32) : Option (Int32 × St) :=
  if ((((x2 - (1 : Int32))) / (2 : Int32))) < x7 then fX9_joinOf_b100 rc18 σ x1 x2 x3 x4 t0 x7 x8 x6 else fX9_joinOf_b100 rc18 σ x1 x2 x3 x4 t0 x7 x8 x8
def fX9_joinOf_b62 (rc18 : St → Int32 → Int32 → Int32 → Int32 → Int32 → Int32 → Int32 → Int32 → Option (Int32 × St)) (σ : St) (x1 : Int32) (x2 : Int32) (x3 : Int32) (x5 : Int32) (x6 : Int32) (x7 : Int32) (x8 : Int32) (t0 : Int32) : Option (Int32 × St) :=
  if ib x8 6 = true then if (σ.1 15 x8.toNatClampNeg) ≤ 0 then fX9_joinOf_b81 rc18 σ x1 x2 x3 t0 x6 x7 x8 x5 else fX9_joinOf_b81 rc18 σ x1 x2 x3 t0 x6 x7 x8 x8 else none
def fX9_joinOf_b60 (rc18 : St → Int32 → Int32 → Int32 → Int32 → Int32 → Int32 → Int32 → Int32 → Option (Int32 × St)) (σ : St) (x1 : Int32) (x2 : Int32) (x3 : Int32) (x4 : Int32) (x5 : Int32) (x6 : Int32) (x7 : Int32) (x8 : Int32) : Option (Int32 × St) :=
  fX9_joinOf_b62 rc18 σ x1 x2 x3 x5 x6 x7 x8 x4
def fX9_joinOf_b18 (rc18 : St → Int32 → Int32 → Int32 → Int32 → Int32 → Int32 → Int32 → Int32 → Option (Int32 × St)) (σ : St) (x1 : Int32) (x2 : Int32) (x3 : Int32) (x4 : Int32) (x5 : Int32) (x6 : Int32) (x7 : Int32) (x8 : Int32) : Option (Int32 × St) :=
  if (6 : Int32) ≤ x8 then if x1 = (97 : Int32) then if ¬ x2 = 0 then some (((((10 : Int32) * x3)) / x2), σ) else none else if x1 = (109 : Int32) then some (((10 : Int32) * x6), σ) else if x1 = (108 : Int32) then some (((10 : Int32) * x4), σ) else some (((10 : Int32) * x5), σ) else if ib x8 6 = true then if ib x8 6 = true then if (σ.1 15 x8.toNatClampNeg) ≤ 0 then fX9_joinOf_b60 rc18 σ x1 x2 (x3 + ((x8 * (σ.1 15 x8.toNatClampNeg)))) x4 x5 x6 x7 x8 else if x4 ≤ x8 then fX9_joinOf_b60 rc18 σ x1 x2 (x3 + ((x8 * (σ.1 15 x8.toNatClampNeg)))) x4 x5 x6 x7 x8 else fX9_joinOf_b62 rc18 σ x1 x2 (x3 + ((x8 * (σ.1 15 x8.toNatClampNeg)))) x5 x6 x7 x8 x8 else none else none
def fX9_joinOf_l18 : Nat → St → Int32 → Int32 → Int32 → Int32 → Int32 → Int32 → Int32 → Int32 → Option (Int32 × St)
  | 0 => fun _ _ _ _ _ _ _ _ _ => none
  | n + 1 => fun σ x1 x2 x3 x4 x5 x6 x7 x8 => fX9_joinOf_b18 (fX9_joinOf_l18 n) σ x1 x2 x3 x4 x5 x6 x7 x8 
def fX9_joinOf (σ : St) (x1 : Int32) (x2 : Int32) : Option (Int32 × St) :=
  fX9_joinOf_l18 gF σ x1 x2 (0 : Int32) (9 : Int32) (0 : Int32) (0 : Int32) (0 : Int32) (0 : Int32)
def fX9_yesOf_b27 (rc27 : St → Int32 → Int32 → Option (Int32 × St)) (σ : St) (x1 : Int32) (x2 : Int32) : Option (Int32 × St) :=
  if (σ.2.1 3) ≤ x2 then some ((0 : Int32), σ) else if x1 ≤ 0 then some ((0 : Int32), σ) else if ib x2 12 = true then Option.bind (fX9_joinOf σ (σ.1 12 x2.toNatClampNeg) x1) fun q4 => if ib x2 12 = true then if q4.1 ≤ (q4.2.1 13 x2.toNatClampNeg) then rc27 q4.2 x1 (x2 + (1 : Int32)) else if ib x2 12 = true then some ((q4.2.1 14 x2.toNatClampNeg), q4.2) else none else none else none
def fX9_yesOf_l27 : Nat → St → Int32 → Int32 → Option (Int32 × St)
  | 0 => fun _ _ _ => none
  | n + 1 => fun σ x1 x2 => fX9_yesOf_b27 (fX9_yesOf_l27 n) σ x1 x2 
def fX9_yesOf_b4 (rc4 : St → Int32 → Int32 → Option (Int32 × St)) (σ : St) (x1 : Int32) (x2 : Int32) : Option (Int32 × St) :=
  if (6 : Int32) ≤ x2 then fX9_yesOf_l27 gF σ x1 (0 : Int32) else if ib x2 6 = true then rc4 σ (x1 + (σ.1 15 x2.toNatClampNeg)) (x2 + (1 : Int32)) else none
def fX9_yesOf_l4 : Nat → St → Int32 → Int32 → Option (Int32 × St)
  | 0 => fun _ _ _ => none
  | n + 1 => fun σ x1 x2 => fX9_yesOf_b4 (fX9_yesOf_l4 n) σ x1 x2 
def fX9_yesOf (σ : St) : Option (Int32 × St) :=
  fX9_yesOf_l4 gF σ (0 : Int32) (0 : Int32)
def fX9_clearGiven_b2 (rc2 : St → Int32 → Option (Unit × St)) (σ : St) (x1 : Int32) : Option (Unit × St) :=
  if (6 : Int32) ≤ x1 then some ((), σ) else if ib x1 6 = true then rc2 (uA σ 15 x1.toNatClampNeg (0 : Int32)) (x1 + (1 : Int32)) else none
def fX9_clearGiven_l2 : Nat → St → Int32 → Option (Unit × St)
  | 0 => fun _ _ => none
  | n + 1 => fun σ x1 => fX9_clearGiven_b2 (fX9_clearGiven_l2 n) σ x1 
def fX9_clearGiven (σ : St) : Option (Unit × St) :=
  fX9_clearGiven_l2 gF σ (0 : Int32)
def fX9_yes_b59 (rc26 : St → Int32 → Int32 → Option (Int32 × St)) (σ : St) (x1 : Int32) (x2 : Int32) : Option (Int32 × St) :=
  rc26 σ x1 (x2 + (1 : Int32))
def fX9_yes_b26 (rc26 : St → Int32 → Int32 → Option (Int32 × St)) (σ : St) (x1 : Int32) (x2 : Int32) : Option (Int32 × St) :=
  if (σ.2.1 0) ≤ x2 then Option.bind (fX9_yesOf σ) fun q2 => some (q2.1, q2.2) else Option.bind (fX9_at σ x2 x1) fun q4 => if ib q4.1 36 = true then if (q4.2.1 9 q4.1.toNatClampNeg) < 0 then fX9_yes_b59 rc26 q4.2 x1 x2 else if ib (q4.2.1 9 q4.1.toNatClampNeg) 6 = true then if ib (q4.2.1 9 q4.1.toNatClampNeg) 6 = true then fX9_yes_b59 rc26 (uA q4.2 15 (q4.2.1 9 q4.1.toNatClampNeg).toNatClampNeg ((((q4.2.1 15 (q4.2.1 9 q4.1.toNatClampNeg).toNatClampNeg)) + (1 : Int32)))) x1 x2 else none else none else none
def fX9_yes_l26 : Nat → St → Int32 → Int32 → Option (Int32 × St)
  | 0 => fun _ _ _ => none
  | n + 1 => fun σ x1 x2 => fX9_yes_b26 (fX9_yes_l26 n) σ x1 x2 
def fX9_yes (σ : St) (x1 : Int32) : Option (Int32 × St) :=
  Option.bind (fX9_isPaper σ x1) fun q1 => if q1.1 = 0 then some ((-1 : Int32), q1.2) else if (q1.2.2.1 3) = 0 then some ((-3 : Int32), q1.2) else Option.bind (fX9_clearGiven q1.2) fun q5 => fX9_yes_l26 gF q5.2 x1 (0 : Int32)
def fX9_isSet (σ : St) (x1 : Int32) : Option (Int32 × St) :=
  Option.bind (fX9_in σ x1.toInt64 (0 : Int64) ((((((1 : Int32) <<< ((σ.2.1 0) &&& 31))) - (1 : Int32))).toInt64)) fun q1 => if q1.1 = 0 ∨ q1.1 = 1 then some (q1.1, q1.2) else none
def fX9_isPart (σ : St) (x0 : Int32) : Option (Int32 × St) :=
  Option.bind (fX9_in σ x0.toInt64 (0 : Int64) (1 : Int64)) fun q1 => if q1.1 = 0 ∨ q1.1 = 1 then some (q1.1, q1.2) else none
def fX9_quarters (σ : St) (x1 : Int32) (x2 : Int32) : Option (Int32 × St) :=
  if x2 = (1 : Int32) then if ib x1 6 = true then some (((4 : Int32) - (((2 : Int32) * (σ.1 2 x1.toNatClampNeg)))), σ) else none else if ib x1 6 = true then some ((σ.1 2 x1.toNatClampNeg), σ) else none
def fX9_tieWith (σ : St) (x1 : Int32) (x2 : Int32) : Option (Int32 × St) :=
  if ib x2 6 = true then if (σ.1 6 x2.toNatClampNeg) = (-6 : Int32) then some ((0 : Int32), σ) else if ib x2 6 = true then if ib (((((6 : Int32) * x1)) + (σ.1 6 x2.toNatClampNeg))) 36 = true then some ((σ.1 4 (((((6 : Int32) * x1)) + (σ.1 6 x2.toNatClampNeg))).toNatClampNeg), σ) else none else none else none
def fX9_within (σ : St) (x0 : Int32) : Option (Int32 × St) :=
  if 0 ≤ x0 then if x0 ≤ (5 : Int32) then some (x0, σ) else some ((5 : Int32), σ) else some ((0 : Int32), σ)
def fX9_markOf (σ : St) (x1 : Int32) (x2 : Int32) (x3 : Int32) (x4 : Int32) : Option (Int32 × St) :=
  if ib x1 6 = true then Option.bind (fX9_tieWith σ x1 x2) fun q2 => Option.bind (fX9_within q2.2 ((((((((x3 + (σ.1 1 x1.toNatClampNeg))) + q2.1)) + x4)) - (1 : Int32)))) fun q4 => some (q4.1, q4.2) else none
def fX9_without (σ : St) (x1 : Int32) (x2 : Int32) : Option (Int32 × St) :=
  if ib x1 6 = true then if (σ.1 6 x1.toNatClampNeg) = (-6 : Int32) then some (x2, σ) else if ib x1 6 = true then some ((x2 &&& (((((1 : Int32) <<< ((σ.1 6 x1.toNatClampNeg) &&& 31))) ^^^ (-1 : Int32)))), σ) else none else none
