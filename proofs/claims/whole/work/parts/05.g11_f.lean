def fX9_findMost_b142 (rc38 : St → Int32 → Int32 → Int32 → Option (Unit × St)) (rc45 : St → Int32 → Int32 → Int32 → Int32 → Option (Unit × St)) (σ : St) (x1 : Int32) (x2 : Int32) (x3 : Int32) (x4 : Int32) (x5 : Int32) : Option (Unit × St) :=
  if ib (((((15625 : Int32) * x3)) + x4)) 109375 = true then rc45 (uA σ 16 (((((15625 : Int32) * x3)) + x4)).toNatClampNeg x5) x1 x2 x3 (x4 + (1 : Int32)) else none
def fX9_findMost_b134 (rc38 : St → Int32 → Int32 → Int32 → Option (Unit × St)) (rc45 : St → Int32 → Int32 → Int32 → Int32 → Option (Unit × St)) (rc82 : St → Int32 → Int32 → Int32 → Int32 → Int32 → Int32 → Option (Unit × St)) (σ : St) (x1 : Int32) (x2 : Int32) (x3 : Int32) (x4 : Int32) (x6 : Int32) (t0 : Int32) : Option (Unit × St) :=
  rc82 σ x1 x2 x3 x4 t0 (x6 + (1 : Int32))
def fX9_findMost_b118 (rc38 : St → Int32 → Int32 → Int32 → Option (Unit × St)) (rc45 : St → Int32 → Int32 → Int32 → Int32 → Option (Unit × St)) (rc82 : St → Int32 → Int32 → Int32 → Int32 → Int32 → Int32 → Option (Unit × St)) (σ : St) (x1 : Int32) (x2 : Int32) (x3 : Int32) (x4 : Int32) (x5 : Int32) (x6 : Int32) (t0 : Int32) : Option (Unit × St) :=
  if t0 ≤ x5 then fX9_findMost_b134 rc38 rc45 rc82 σ x1 x2 x3 x4 x6 x5 else fX9_findMost_b134 rc38 rc45 rc82 σ x1 x2 x3 x4 x6 t0
def fX9_findMost_b82 (rc38 : St → Int32 → Int32 → Int32 → Option (Unit × St)) (rc45 : St → Int32 → Int32 → Int32 → Int32 → Option (Unit × St)) (rc82 : St → Int32 → Int32 → Int32 → Int32 → Int32 → Int32 → Option (Unit × St)) (σ : St) (x1 : Int32) (x2 : Int32) (x3 : Int32) (x4 : Int32) (x5 : Int32) (x6 : Int32) : Option (Unit × St) :=
  if (((1 : Int32) <<< ((σ.2.1 0) &&& 31))) ≤ x6 then fX9_findMost_b142 rc38 rc45 σ x1 x2 x3 x4 x5 else Option.bind (fX9_ones σ x6) fun q2 => if q2.1 = x1 then Option.bind (fX9_bringsOf q2.2 x3 x4 x6 x1 x2) fun q5 => fX9_findMost_b118 rc38 rc45 rc82 q5.2 x1 x2 x3 x4 x5 x6 q5.1 else fX9_findMost_b118 rc38 rc45 rc82 q2.2 x1 x2 x3 x4 x5 x6 (-6 : Int32)
def fX9_findMost_l82 (rc38 : St → Int32 → Int32 → Int32 → Option (Unit × St)) (rc45 : St → Int32 → Int32 → Int32 → Int32 → Option (Unit × St)) : Nat → St → Int32 → Int32 → Int32 → Int32 → Int32 → Int32 → Option (Unit × St)
  | 0 => fun _ _ _ _ _ _ _ => none
  | n + 1 => fun σ x1 x2 x3 x4 x5 x6 => fX9_findMost_b82 rc38 rc45 (fX9_findMost_l82 rc38 rc45 n) σ x1 x2 x3 x4 x5 x6 
def fX9_findMost_b45 (rc38 : St → Int32 → Int32 → Int32 → Option (Unit × St)) (rc45 : St → Int32 → Int32 → Int32 → Int32 → Option (Unit × St)) (σ : St) (x1 : Int32) (x2 : Int32) (x3 : Int32) (x4 : Int32) : Option (Unit × St) :=
  if (15625 : Int32) ≤ x4 then rc38 σ x1 x2 (x3 + (-1 : Int32)) else Option.bind (fX9_totalOf σ x4) fun q2 => if q2.1 = (x1 * x3) then Option.bind (fX9_loadsBy q2.2 x4 (0 : Int32) x2) fun q5 => if q5.1 < 0 then fX9_findMost_b142 rc38 rc45 q5.2 x1 x2 x3 x4 (-6 : Int32) else fX9_findMost_l82 rc38 rc45 gF q5.2 x1 x2 x3 x4 (-6 : Int32) (0 : Int32) else fX9_findMost_b142 rc38 rc45 q2.2 x1 x2 x3 x4 (-6 : Int32)
def fX9_findMost_l45 (rc38 : St → Int32 → Int32 → Int32 → Option (Unit × St)) : Nat → St → Int32 → Int32 → Int32 → Int32 → Option (Unit × St)
  | 0 => fun _ _ _ _ _ => none
  | n + 1 => fun σ x1 x2 x3 x4 => fX9_findMost_b45 rc38 (fX9_findMost_l45 rc38 n) σ x1 x2 x3 x4 
def fX9_findMost_b38 (rc38 : St → Int32 → Int32 → Int32 → Option (Unit × St)) (σ : St) (x1 : Int32) (x2 : Int32) (x3 : Int32) : Option (Unit × St) :=
  if x3 < 0 then some ((), σ) else fX9_findMost_l45 rc38 gF σ x1 x2 x3 (0 : Int32)
def fX9_findMost_l38 : Nat → St → Int32 → Int32 → Int32 → Option (Unit × St)
  | 0 => fun _ _ _ _ => none
  | n + 1 => fun σ x1 x2 x3 => fX9_findMost_b38 (fX9_findMost_l38 n) σ x1 x2 x3 
def fX9_findMost_b2 (rc2 : St → Int32 → Int32 → Int32 → Option (Unit × St)) (σ : St) (x1 : Int32) (x2 : Int32) (x3 : Int32) : Option (Unit × St) :=
  if (15625 : Int32) ≤ x3 then fX9_findMost_l38 gF σ x1 x2 ((σ.2.1 1) - (1 : Int32)) else if ib (((((15625 : Int32) * (σ.2.1 1))) + x3)) 109375 = true then rc2 (uA σ 16 (((((15625 : Int32) * (σ.2.1 1))) + x3)).toNatClampNeg (0 : Int32)) x1 x2 (x3 + (1 : Int32)) else none
def fX9_findMost_l2 : Nat → St → Int32 → Int32 → Int32 → Option (Unit × St)
  | 0 => fun _ _ _ _ => none
  | n + 1 => fun σ x1 x2 x3 => fX9_findMost_b2 (fX9_findMost_l2 n) σ x1 x2 x3 
def fX9_findMost (σ : St) (x1 : Int32) (x2 : Int32) : Option (Unit × St) :=
  fX9_findMost_l2 gF σ x1 x2 (0 : Int32)
def fX9_match_b90 (rc81 : St → Int32 → Int32 → Int32 → Int32 → Int32 → Int32 → Option (Int32 × St)) (rc90 : St → Int32 → Int32 → Int32 → Int32 → Int32 → Int32 → Option (Int32 × St)) (σ : St) (x1 : Int32) (x2 : Int32) (x3 : Int32) (x4 : Int32) (x5 : Int32) (x6 : Int32) : Option (Int32 × St) :=
  Option.bind (fX9_bringsOf σ x6 x4 x5 x1 x2) fun q1 => if ib (((((15625 : Int32) * x6)) + x4)) 109375 = true then if q1.1 = ((q1.2.1 16 (((((15625 : Int32) * x6)) + x4)).toNatClampNeg)) then Option.bind (fX9_loadsBy q1.2 x4 x5 x2) fun q5 => rc81 q5.2 x1 x2 x3 q5.1 x5 (x6 + (1 : Int32)) else rc90 q1.2 x1 x2 x3 x4 (x5 + (1 : Int32)) x6 else none
def fX9_match_l90 (rc81 : St → Int32 → Int32 → Int32 → Int32 → Int32 → Int32 → Option (Int32 × St)) : Nat → St → Int32 → Int32 → Int32 → Int32 → Int32 → Int32 → Option (Int32 × St)
  | 0 => fun _ _ _ _ _ _ _ => none
  | n + 1 => fun σ x1 x2 x3 x4 x5 x6 => fX9_match_b90 rc81 (fX9_match_l90 rc81 n) σ x1 x2 x3 x4 x5 x6 
def fX9_match_b81 (rc81 : St → Int32 → Int32 → Int32 → Int32 → Int32 → Int32 → Option (Int32 × St)) (σ : St) (x1 : Int32) (x2 : Int32) (x3 : Int32) (x4 : Int32) (x5 : Int32) (x6 : Int32) : Option (Int32 × St) :=
  if x3 < x6 then some (x5, σ) else fX9_match_l90 rc81 gF σ x1 x2 x3 x4 (0 : Int32) x6
def fX9_match_l81 : Nat → St → Int32 → Int32 → Int32 → Int32 → Int32 → Int32 → Option (Int32 × St)
  | 0 => fun _ _ _ _ _ _ _ => none
  | n + 1 => fun σ x1 x2 x3 x4 x5 x6 => fX9_match_b81 (fX9_match_l81 n) σ x1 x2 x3 x4 x5 x6 
def fX9_match_b15 (σ : St) (x1 : Int32) (x2 : Int32) (x3 : Int32) : Option (Int32 × St) :=
  Option.bind (fX9_in σ x1.toInt64 (1 : Int64) (3 : Int64)) fun q1 => if q1.1 = 0 then some ((-2 : Int32), q1.2) else Option.bind (fX9_in q1.2 x2.toInt64 (1 : Int64) (4 : Int64)) fun q4 => if q4.1 = 0 then some ((-2 : Int32), q4.2) else Option.bind (fX9_findMost q4.2 x1 x2) fun q7 => if 0 ≤ ((q7.2.1 16 (0 : Int32).toNatClampNeg)) then if x3 = (-1 : Int32) then some ((q7.2.1 16 (0 : Int32).toNatClampNeg), q7.2) else fX9_match_l81 gF q7.2 x1 x2 x3 (0 : Int32) (0 : Int32) (0 : Int32) else some ((-5 : Int32), q7.2)
def fX9_match (σ : St) (x1 : Int32) (x2 : Int32) (x3 : Int32) : Option (Int32 × St) :=
  if x3 = (-1 : Int32) then fX9_match_b15 σ x1 x2 x3 else Option.bind (fX9_isPaper σ x3) fun q2 => if q2.1 = 0 then some ((-1 : Int32), q2.2) else fX9_match_b15 q2.2 x1 x2 x3
def fX9_moreMarks_b125 (σ : St) : Option (Int32 × St) :=
  some ((0 : Int32), σ)
def fX9_moreMarks_b106 (rc14 : St → Int32 → Int32 → Int32 → Int32 → Int32 → Int32 → Int32 → Option (Int32 × St)) (σ : St) (x1 : Int32) (x2 : Int32) (x3 : Int32) (x4 : Int32) (x5 : Int32) (x7 : Int32) (t0 : Int32) (t1 : Int32) : Option (Int32 × St) :=
  rc14 σ x1 x2 x3 x4 x5 (t0 + t1) (x7 + (1 : Int32))
def fX9_moreMarks_b91 (rc14 : St → Int32 → Int32 → Int32 → Int32 → Int32 → Int32 → Int32 → Option (Int32 × St)) (σ : St) (x1 : Int32) (x2 : Int32) (x3 : Int32) (x4 : Int32) (x6 : Int32) (x7 : Int32) (x9 : Int32) (t0 : Int32) (t1 : Int32) : Option (Int32 × St) :=
  if 0 ≤ x9 then fX9_moreMarks_b106 rc14 σ x1 x2 x3 x4 (t0 + t1) x7 x6 (1 : Int32) else fX9_moreMarks_b106 rc14 σ x1 x2 x3 x4 (t0 + t1) x7 x6 (0 : Int32)
def fX9_moreMarks_b75 (rc14 : St → Int32 → Int32 → Int32 → Int32 → Int32 → Int32 → Int32 → Option (Int32 × St)) (σ : St) (x1 : Int32) (x2 : Int32) (x3 : Int32) (x5 : Int32) (x6 : Int32) (x7 : Int32) (x9 : Int32) (t0 : Int32) (t1 : Int32) : Option (Int32 × St) :=
  if 0 ≤ x9 then fX9_moreMarks_b91 rc14 σ x1 x2 x3 (t0 + t1) x6 x7 x9 x5 x9 else fX9_moreMarks_b91 rc14 σ x1 x2 x3 (t0 + t1) x6 x7 x9 x5 (0 : Int32)
def fX9_moreMarks_b61 (rc14 : St → Int32 → Int32 → Int32 → Int32 → Int32 → Int32 → Int32 → Option (Int32 × St)) (σ : St) (x1 : Int32) (x2 : Int32) (x4 : Int32) (x5 : Int32) (x6 : Int32) (x7 : Int32) (x8 : Int32) (x9 : Int32) (t0 : Int32) (t1 : Int32) : Option (Int32 × St) :=
  if 0 ≤ x8 then fX9_moreMarks_b75 rc14 σ x1 x2 (t0 + t1) x5 x6 x7 x9 x4 (1 : Int32) else fX9_moreMarks_b75 rc14 σ x1 x2 (t0 + t1) x5 x6 x7 x9 x4 (0 : Int32)
def fX9_moreMarks_b14 (rc14 : St → Int32 → Int32 → Int32 → Int32 → Int32 → Int32 → Int32 → Option (Int32 × St)) (σ : St) (x1 : Int32) (x2 : Int32) (x3 : Int32) (x4 : Int32) (x5 : Int32) (x6 : Int32) (x7 : Int32) : Option (Int32 × St) :=
  if (σ.2.1 0) ≤ x7 then if x4 = 0 then fX9_moreMarks_b125 σ else if x6 = 0 then fX9_moreMarks_b125 σ else some (((x3 * x6) - (x5 * x4)), σ) else Option.bind (fX9_at σ x7 x1) fun q4 => if ib q4.1 36 = true then Option.bind (fX9_at q4.2 x7 x2) fun q7 => if ib q7.1 36 = true then if 0 ≤ (q4.2.1 9 q4.1.toNatClampNeg) then fX9_moreMarks_b61 rc14 q7.2 x1 x2 x4 x5 x6 x7 (q4.2.1 9 q4.1.toNatClampNeg) (q7.2.1 9 q7.1.toNatClampNeg) x3 (q4.2.1 9 q4.1.toNatClampNeg) else fX9_moreMarks_b61 rc14 q7.2 x1 x2 x4 x5 x6 x7 (q4.2.1 9 q4.1.toNatClampNeg) (q7.2.1 9 q7.1.toNatClampNeg) x3 (0 : Int32) else none else none
def fX9_moreMarks_l14 : Nat → St → Int32 → Int32 → Int32 → Int32 → Int32 → Int32 → Int32 → Option (Int32 × St)
  | 0 => fun _ _ _ _ _ _ _ _ => none
  | n + 1 => fun σ x1 x2 x3 x4 x5 x6 x7 => fX9_moreMarks_b14 (fX9_moreMarks_l14 n) σ x1 x2 x3 x4 x5 x6 x7 
def fX9_moreMarks (σ : St) (x1 : Int32) (x2 : Int32) : Option (Int32 × St) :=
  fX9_moreMarks_l14 gF σ x1 x2 (0 : Int32) (0 : Int32) (0 : Int32) (0 : Int32) (0 : Int32)
def fX9_held_b159 (rc17 : St → Int32 → Int32 → Int32 → Option (Int32 × St)) (rc28 : St → Int32 → Int32 → Int32 → Int32 → Option (Int32 × St)) (σ : St) (x1 : Int32) (x3 : Int32) (x4 : Int32) (t0 : Int32) (t1 : Int32) : Option (Int32 × St) :=
  rc28 σ x1 (t0 + t1) x3 (x4 + (1 : Int32))
def fX9_held_b158 (rc17 : St → Int32 → Int32 → Int32 → Option (Int32 × St)) (rc28 : St → Int32 → Int32 → Int32 → Int32 → Option (Int32 × St)) (σ : St) (x1 : Int32) (x3 : Int32) (x4 : Int32) (t0 : Int32) : Option (Int32 × St) :=
  fX9_held_b159 rc17 rc28 σ x1 x3 x4 t0 (0 : Int32)
def fX9_held_b154 (rc17 : St → Int32 → Int32 → Int32 → Option (Int32 × St)) (rc28 : St → Int32 → Int32 → Int32 → Int32 → Option (Int32 × St)) (σ : St) (x1 : Int32) (x3 : Int32) (x4 : Int32) (t0 : Int32) : Option (Int32 × St) :=
  fX9_held_b159 rc17 rc28 σ x1 x3 x4 t0 (1 : Int32)
def fX9_held_b134 (rc17 : St → Int32 → Int32 → Int32 → Option (Int32 × St)) (rc28 : St → Int32 → Int32 → Int32 → Int32 → Option (Int32 × St)) (σ : St) (x1 : Int32) (x2 : Int32) (x3 : Int32) (x4 : Int32) (x7 : Int32) (t0 : Int32) : Option (Int32 × St) :=
  if x1 = 0 then if x7 = 0 then fX9_held_b158 rc17 rc28 σ x1 x3 x4 x2 else fX9_held_b154 rc17 rc28 σ x1 x3 x4 x2 else if t0 = 0 then fX9_held_b158 rc17 rc28 σ x1 x3 x4 x2 else fX9_held_b154 rc17 rc28 σ x1 x3 x4 x2
def fX9_held_b133 (rc17 : St → Int32 → Int32 → Int32 → Option (Int32 × St)) (rc28 : St → Int32 → Int32 → Int32 → Int32 → Option (Int32 × St)) (σ : St) (x1 : Int32) (x2 : Int32) (x3 : Int32) (x4 : Int32) (x7 : Int32) : Option (Int32 × St) :=
  fX9_held_b134 rc17 rc28 σ x1 x2 x3 x4 x7 (0 : Int32)
def fX9_held_b129 (rc17 : St → Int32 → Int32 → Int32 → Option (Int32 × St)) (rc28 : St → Int32 → Int32 → Int32 → Int32 → Option (Int32 × St)) (σ : St) (x1 : Int32) (x2 : Int32) (x3 : Int32) (x4 : Int32) (x7 : Int32) : Option (Int32 × St) :=
  fX9_held_b134 rc17 rc28 σ x1 x2 x3 x4 x7 (1 : Int32)
def fX9_held_b119 (rc17 : St → Int32 → Int32 → Int32 → Option (Int32 × St)) (rc28 : St → Int32 → Int32 → Int32 → Int32 → Option (Int32 × St)) (σ : St) (x1 : Int32) (x2 : Int32) (x3 : Int32) (x4 : Int32) (x5 : Int32) (x6 : Int32) (x7 : Int32) : Option (Int32 × St) :=
  if 0 ≤ x5 then fX9_held_b133 rc17 rc28 σ x1 x2 x3 x4 x7 else if x6 ≤ 0 then fX9_held_b133 rc17 rc28 σ x1 x2 x3 x4 x7 else fX9_held_b129 rc17 rc28 σ x1 x2 x3 x4 x7
def fX9_held_b107 (rc17 : St → Int32 → Int32 → Int32 → Option (Int32 × St)) (rc28 : St → Int32 → Int32 → Int32 → Int32 → Option (Int32 × St)) (σ : St) (x1 : Int32) (x2 : Int32) (x3 : Int32) (x4 : Int32) (x5 : Int32) (x6 : Int32) (t0 : Int32) : Option (Int32 × St) :=
  if x5 ≤ 0 then fX9_held_b119 rc17 rc28 σ x1 x2 x3 x4 x5 x6 t0 else if x6 < 0 then fX9_held_b129 rc17 rc28 σ x1 x2 x3 x4 t0 else fX9_held_b119 rc17 rc28 σ x1 x2 x3 x4 x5 x6 t0
def fX9_held_b106 (rc17 : St → Int32 → Int32 → Int32 → Option (Int32 × St)) (rc28 : St → Int32 → Int32 → Int32 → Int32 → Option (Int32 × St)) (σ : St) (x1 : Int32) (x2 : Int32) (x3 : Int32) (x4 : Int32) (x5 : Int32) (x6 : Int32) : Option (Int32 × St) :=
  fX9_held_b107 rc17 rc28 σ x1 x2 x3 x4 x5 x6 (0 : Int32)
def fX9_held_b102 (rc17 : St → Int32 → Int32 → Int32 → Option (Int32 × St)) (rc28 : St → Int32 → Int32 → Int32 → Int32 → Option (Int32 × St)) (σ : St) (x1 : Int32) (x2 : Int32) (x3 : Int32) (x4 : Int32) (x5 : Int32) (x6 : Int32) : Option (Int32 × St) :=
  fX9_held_b107 rc17 rc28 σ x1 x2 x3 x4 x5 x6 (1 : Int32)
def fX9_held_b92 (rc17 : St → Int32 → Int32 → Int32 → Option (Int32 × St)) (rc28 : St → Int32 → Int32 → Int32 → Int32 → Option (Int32 × St)) (σ : St) (x1 : Int32) (x2 : Int32) (x3 : Int32) (x4 : Int32) (x5 : Int32) (x6 : Int32) : Option (Int32 × St) :=
  if 0 ≤ x5 then fX9_held_b106 rc17 rc28 σ x1 x2 x3 x4 x5 x6 else if 0 ≤ x6 then fX9_held_b106 rc17 rc28 σ x1 x2 x3 x4 x5 x6 else fX9_held_b102 rc17 rc28 σ x1 x2 x3 x4 x5 x6
def fX9_held_b71 (rc17 : St → Int32 → Int32 → Int32 → Option (Int32 × St)) (rc28 : St → Int32 → Int32 → Int32 → Int32 → Option (Int32 × St)) (σ : St) (x1 : Int32) (x2 : Int32) (x3 : Int32) (x4 : Int32) (t0 : Int32) : Option (Int32 × St) :=
  Option.bind (fX9_moreMarks σ x3 x4) fun q1 => if t0 ≤ 0 then fX9_held_b92 rc17 rc28 q1.2 x1 x2 x3 x4 t0 q1.1 else if 0 < q1.1 then fX9_held_b102 rc17 rc28 q1.2 x1 x2 x3 x4 t0 q1.1 else fX9_held_b92 rc17 rc28 q1.2 x1 x2 x3 x4 t0 q1.1
def fX9_held_b53 (rc17 : St → Int32 → Int32 → Int32 → Option (Int32 × St)) (rc28 : St → Int32 → Int32 → Int32 → Int32 → Option (Int32 × St)) (σ : St) (x1 : Int32) (x2 : Int32) (x3 : Int32) (x4 : Int32) : Option (Int32 × St) :=
  fX9_held_b71 rc17 rc28 σ x1 x2 x3 x4 (0 : Int32)
def fX9_held_b28 (rc17 : St → Int32 → Int32 → Int32 → Option (Int32 × St)) (rc28 : St → Int32 → Int32 → Int32 → Int32 → Option (Int32 × St)) (σ : St) (x1 : Int32) (x2 : Int32) (x3 : Int32) (x4 : Int32) : Option (Int32 × St) :=
  if x3 ≤ x4 then rc17 σ x1 x2 (x3 + (1 : Int32)) else if ib x3 6 = true then if (σ.1 8 x3.toNatClampNeg) < 0 then fX9_held_b53 rc17 rc28 σ x1 x2 x3 x4 else if ib x4 6 = true then if 0 ≤ (σ.1 8 x4.toNatClampNeg) then if ib x3 6 = true then if ib x4 6 = true then fX9_held_b71 rc17 rc28 σ x1 x2 x3 x4 ((σ.1 8 x3.toNatClampNeg) - (σ.1 8 x4.toNatClampNeg)) else none else none else fX9_held_b53 rc17 rc28 σ x1 x2 x3 x4 else none else none
def fX9_held_l28 (rc17 : St → Int32 → Int32 → Int32 → Option (Int32 × St)) : Nat → St → Int32 → Int32 → Int32 → Int32 → Option (Int32 × St)
  | 0 => fun _ _ _ _ _ => none
  | n + 1 => fun σ x1 x2 x3 x4 => fX9_held_b28 rc17 (fX9_held_l28 rc17 n) σ x1 x2 x3 x4 
def fX9_held_b17 (rc17 : St → Int32 → Int32 → Int32 → Option (Int32 × St)) (σ : St) (x1 : Int32) (x2 : Int32) (x3 : Int32) : Option (Int32 × St) :=
  if (σ.2.1 1) ≤ x3 then some (x2, σ) else fX9_held_l28 rc17 gF σ x1 x2 x3 (0 : Int32)
def fX9_held_l17 : Nat → St → Int32 → Int32 → Int32 → Option (Int32 × St)
  | 0 => fun _ _ _ _ => none
  | n + 1 => fun σ x1 x2 x3 => fX9_held_b17 (fX9_held_l17 n) σ x1 x2 x3 
def fX9_held (σ : St) (x1 : Int32) : Option (Int32 × St) :=
  Option.bind (fX9_in σ x1.toInt64 (0 : Int64) (1 : Int64)) fun q1 => if q1.1 = 0 then some ((-2 : Int32), q1.2) else fX9_held_l17 gF q1.2 x1 (0 : Int32) (0 : Int32)
