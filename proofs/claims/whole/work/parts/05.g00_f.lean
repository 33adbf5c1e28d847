def fX8_within (σ : St) (x0 : Int32) (x1 : Int32) (x2 : Int32) : Option (Int32 × St) :=
  if x0 < x1 then some ((0 : Int32), σ) else if x2 < x0 then some ((0 : Int32), σ) else some ((1 : Int32), σ)
def fX0_add (σ : St) (x1 : Int32) (x2 : Int32) : Option (Int32 × St) :=
  if (σ.2.1 0) < (6 : Int32) then if ib (σ.2.1 0) 6 = true then if ib ((((uA σ 10 (σ.2.1 0).toNatClampNeg x1)).2.1 0)) 6 = true then some ((((uA ((uA σ 10 (σ.2.1 0).toNatClampNeg x1)) 11 ((((uA σ 10 (σ.2.1 0).toNatClampNeg x1)).2.1 0)).toNatClampNeg x2)).2.1 0), (uI ((uA ((uA σ 10 (σ.2.1 0).toNatClampNeg x1)) 11 ((((uA σ 10 (σ.2.1 0).toNatClampNeg x1)).2.1 0)).toNatClampNeg x2)) 0 ((((((uA ((uA σ 10 (σ.2.1 0).toNatClampNeg x1)) 11 ((((uA σ 10 (σ.2.1 0).toNatClampNeg x1)).2.1 0)).toNatClampNeg x2)).2.1 0)) + (1 : Int32))))) else none else none else some ((-4 : Int32), σ)
def fX8_judge (σ : St) (x1 : Int32) (x2 : Int32) : Option (Int32 × St) :=
  Option.bind (fX8_within σ x1 (-2 : Int32) (2 : Int32)) fun q1 => if q1.1 = 0 then some ((-2 : Int32), q1.2) else Option.bind (fX8_within q1.2 x2 (0 : Int32) (2 : Int32)) fun q4 => if q4.1 = 0 then some ((-2 : Int32), q4.2) else Option.bind (fX0_add q4.2 x1 x2) fun q7 => some (q7.1, q7.2)
def fX4_add (σ : St) (x1 : Int32) (x2 : Int32) : Option (Int32 × St) :=
  if (σ.2.1 1) < (6 : Int32) then if ib (σ.2.1 1) 6 = true then if ib ((((uA σ 14 (σ.2.1 1).toNatClampNeg x1)).2.1 1)) 6 = true then if ib ((((uA ((uA σ 14 (σ.2.1 1).toNatClampNeg x1)) 15 ((((uA σ 14 (σ.2.1 1).toNatClampNeg x1)).2.1 1)).toNatClampNeg x2)).2.1 1)) 6 = true then some ((((uA ((uA ((uA σ 14 (σ.2.1 1).toNatClampNeg x1)) 15 ((((uA σ 14 (σ.2.1 1).toNatClampNeg x1)).2.1 1)).toNatClampNeg x2)) 17 ((((uA ((uA σ 14 (σ.2.1 1).toNatClampNeg x1)) 15 ((((uA σ 14 (σ.2.1 1).toNatClampNeg x1)).2.1 1)).toNatClampNeg x2)).2.1 1)).toNatClampNeg (-6 : Int32))).2.1 1), (uI ((uA ((uA ((uA σ 14 (σ.2.1 1).toNatClampNeg x1)) 15 ((((uA σ 14 (σ.2.1 1).toNatClampNeg x1)).2.1 1)).toNatClampNeg x2)) 17 ((((uA ((uA σ 14 (σ.2.1 1).toNatClampNeg x1)) 15 ((((uA σ 14 (σ.2.1 1).toNatClampNeg x1)).2.1 1)).toNatClampNeg x2)).2.1 1)).toNatClampNeg (-6 : Int32))) 1 ((((((uA ((uA ((uA σ 14 (σ.2.1 1).toNatClampNeg x1)) 15 ((((uA σ 14 (σ.2.1 1).toNatClampNeg x1)).2.1 1)).toNatClampNeg x2)) 17 ((((uA ((uA σ 14 (σ.2.1 1).toNatClampNeg x1)) 15 ((((uA σ 14 (σ.2.1 1).toNatClampNeg x1)).2.1 1)).toNatClampNeg x2)).2.1 1)).toNatClampNeg (-6 : Int32))).2.1 1)) + (1 : Int32))))) else none else none else none else some ((-4 : Int32), σ)
def fX0_has (σ : St) (x1 : Int32) : Option (Int32 × St) :=
  if x1 < 0 then some ((0 : Int32), σ) else if (σ.2.1 0) ≤ x1 then some ((0 : Int32), σ) else some ((1 : Int32), σ)
def fX8_paper_b19 (σ : St) (x1 : Int32) (x2 : Int32) : Option (Int32 × St) :=
  Option.bind (fX8_within σ x1 (0 : Int32) (5 : Int32)) fun q1 => if q1.1 = 0 then some ((-2 : Int32), q1.2) else Option.bind (fX4_add q1.2 x1 x2) fun q4 => some (q4.1, q4.2)
def fX8_paper (σ : St) (x1 : Int32) (x2 : Int32) : Option (Int32 × St) :=
  if x2 = (-6 : Int32) then fX8_paper_b19 σ x1 x2 else Option.bind (fX0_has σ x2) fun q2 => if q2.1 = 0 then some ((-1 : Int32), q2.2) else fX8_paper_b19 q2.2 x1 x2
def fX0_tieOf (σ : St) (x1 : Int32) (x2 : Int32) : Option (Int32 × St) :=
  Option.bind (fX0_has σ x1) fun q1 => if q1.1 = 0 then some ((0 : Int32), q1.2) else Option.bind (fX0_has q1.2 x2) fun q4 => if q4.1 = 0 then some ((0 : Int32), q4.2) else if ib ((((x1 * (6 : Int32))) + x2)) 36 = true then some ((q4.2.1 13 ((((x1 * (6 : Int32))) + x2)).toNatClampNeg), q4.2) else none
def fX0_putTie (σ : St) (x1 : Int32) (x2 : Int32) (x3 : Int32) : Option (Unit × St) :=
  if ib ((((x1 * (6 : Int32))) + x2)) 36 = true then if ib ((((x2 * (6 : Int32))) + x1)) 36 = true then some ((), (uA ((uA σ 13 ((((x1 * (6 : Int32))) + x2)).toNatClampNeg x3)) 13 ((((x2 * (6 : Int32))) + x1)).toNatClampNeg x3)) else none else none
def fX8_tie (σ : St) (x1 : Int32) (x2 : Int32) (x3 : Int32) : Option (Int32 × St) :=
  Option.bind (fX0_has σ x1) fun q1 => if q1.1 = 0 then some ((-1 : Int32), q1.2) else Option.bind (fX0_has q1.2 x2) fun q4 => if q4.1 = 0 then some ((-1 : Int32), q4.2) else if x1 = x2 then some ((-1 : Int32), q4.2) else Option.bind (fX8_within q4.2 x3 (-1 : Int32) (1 : Int32)) fun q8 => if q8.1 = 0 then some ((-2 : Int32), q8.2) else Option.bind (fX0_tieOf q8.2 x1 x2) fun q11 => Option.bind (fX0_putTie q11.2 x1 x2 x3) fun q13 => some ((q11.1 + (10 : Int32)), q13.2)
def fX8_replace_19 (σ : St) (x1 : Int32) (x2 : Int32) : Option (Int32 × St) :=
  if ib x1 36 = true then if ib x1 36 = true then some ((σ.1 19 x1.toNatClampNeg), (uA σ 19 x1.toNatClampNeg x2)) else none else none
def fX4_has (σ : St) (x1 : Int32) : Option (Int32 × St) :=
  if x1 < 0 then some ((0 : Int32), σ) else if (σ.2.1 1) ≤ x1 then some ((0 : Int32), σ) else some ((1 : Int32), σ)
def fX8_mark_b76 (σ : St) (t1 : Int32) (t2 : Int32) : Option (Int32 × St) :=
  Option.bind (fX8_replace_19 σ t1 t2) fun q1 => some (q1.1, q1.2)
def fX8_mark (σ : St) (x1 : Int32) (x2 : Int32) (x3 : Int32) : Option (Int32 × St) :=
  Option.bind (fX0_has σ x1) fun q1 => if q1.1 = 0 then some ((-1 : Int32), q1.2) else Option.bind (fX4_has q1.2 x2) fun q4 => if q4.1 = 0 then some ((-1 : Int32), q4.2) else Option.bind (fX8_within q4.2 x3 (-1 : Int32) (5 : Int32)) fun q7 => if q7.1 = 0 then some ((-2 : Int32), q7.2) else if ib x2 6 = true then if (q7.2.1 15 x2.toNatClampNeg) = x1 then some ((-5 : Int32), q7.2) else if x3 = (-1 : Int32) then fX8_mark_b76 q7.2 (((x1 * (6 : Int32))) + x2) (-6 : Int32) else fX8_mark_b76 q7.2 (((x1 * (6 : Int32))) + x2) x3 else none
def fX8_replace_12 (σ : St) (x1 : Int32) (x2 : Int32) : Option (Int32 × St) :=
  if ib x1 6 = true then if ib x1 6 = true then some ((σ.1 12 x1.toNatClampNeg), (uA σ 12 x1.toNatClampNeg x2)) else none else none
def fX8_setKeys_12 (σ : St) (x1 : Int32) (x2 : Int32) (x3 : Int32) : Option (Int32 × St) :=
  if x1 = 0 then some ((-1 : Int32), σ) else Option.bind (fX8_within σ x3 (0 : Int32) (63 : Int32)) fun q2 => if q2.1 = 0 then some ((-2 : Int32), q2.2) else Option.bind (fX8_replace_12 q2.2 x2 x3) fun q5 => some (q5.1, q5.2)
def fX8_replace_16 (σ : St) (x1 : Int32) (x2 : Int32) : Option (Int32 × St) :=
  if ib x1 6 = true then if ib x1 6 = true then some ((σ.1 16 x1.toNatClampNeg), (uA σ 16 x1.toNatClampNeg x2)) else none else none
def fX8_setKeys_16 (σ : St) (x1 : Int32) (x2 : Int32) (x3 : Int32) : Option (Int32 × St) :=
  if x1 = 0 then some ((-1 : Int32), σ) else Option.bind (fX8_within σ x3 (0 : Int32) (63 : Int32)) fun q2 => if q2.1 = 0 then some ((-2 : Int32), q2.2) else Option.bind (fX8_replace_16 q2.2 x2 x3) fun q5 => some (q5.1, q5.2)
def fX8_replace_17 (σ : St) (x1 : Int32) (x2 : Int32) : Option (Int32 × St) :=
  if ib x1 6 = true then if ib x1 6 = true then some ((σ.1 17 x1.toNatClampNeg), (uA σ 17 x1.toNatClampNeg x2)) else none else none
def fX8_setLater_b45 (σ : St) (t1 : Int32) (t2 : Int32) : Option (Int32 × St) :=
  Option.bind (fX8_replace_17 σ t1 t2) fun q1 => some (q1.1, q1.2)
def fX8_setLater (σ : St) (x1 : Int32) (x2 : Int32) : Option (Int32 × St) :=
  Option.bind (fX4_has σ x1) fun q1 => if q1.1 = 0 then some ((-1 : Int32), q1.2) else Option.bind (fX8_within q1.2 x2 (-1 : Int32) (9 : Int32)) fun q4 => if q4.1 = 0 then some ((-2 : Int32), q4.2) else if x2 = (-1 : Int32) then fX8_setLater_b45 q4.2 x1 (-6 : Int32) else fX8_setLater_b45 q4.2 x1 x2
def fX8_set (σ : St) (x1 : Int32) (x2 : Int32) (x3 : Int32) : Option (Int32 × St) :=
  if x1 = (0 : Int32) then Option.bind (fX0_has σ x2) fun q2 => Option.bind (fX8_setKeys_12 q2.2 q2.1 x2 x3) fun q4 => some (q4.1, q4.2) else if x1 = (1 : Int32) then Option.bind (fX4_has σ x2) fun q7 => Option.bind (fX8_setKeys_16 q7.2 q7.1 x2 x3) fun q9 => some (q9.1, q9.2) else if x1 = (2 : Int32) then Option.bind (fX8_setLater σ x2 x3) fun q12 => some (q12.1, q12.2) else some ((-2 : Int32), σ)
def fX6_add (σ : St) (x1 : Int32) : Option (Int32 × St) :=
  if (σ.2.1 2) < (40 : Int32) then if ib (σ.2.1 2) 40 = true then some ((((uI ((uA σ 21 (σ.2.1 2).toNatClampNeg x1)) 2 ((((((uA σ 21 (σ.2.1 2).toNatClampNeg x1)).2.1 2)) + (1 : Int32))))).2.1 2), (uI ((uA σ 21 (σ.2.1 2).toNatClampNeg x1)) 2 ((((((uA σ 21 (σ.2.1 2).toNatClampNeg x1)).2.1 2)) + (1 : Int32))))) else none else some ((-4 : Int32), σ)
def fX8_say (σ : St) (x1 : Int32) : Option (Int32 × St) :=
  Option.bind (fX8_within σ x1 (33 : Int32) (126 : Int32)) fun q1 => if q1.1 = 0 then some ((-2 : Int32), q1.2) else Option.bind (fX6_add q1.2 x1) fun q4 => some (q4.1, q4.2)
def fX6_clear (σ : St) : Option (Int32 × St) :=
  some ((σ.2.1 2), (uI σ 2 (0 : Int32)))
def fX8_wipe (σ : St) : Option (Int32 × St) :=
  Option.bind (fX6_clear σ) fun q1 => some (q1.1, q1.2)
def fX6_mayEnd_b16 (σ : St) : Option (Int32 × St) :=
  some ((1 : Int32), σ)
def fX6_mayEnd (σ : St) (x0 : Int32) : Option (Int32 × St) :=
  if x0 = (3 : Int32) then fX6_mayEnd_b16 σ else if x0 = (4 : Int32) then fX6_mayEnd_b16 σ else if x0 = (6 : Int32) then fX6_mayEnd_b16 σ else some ((0 : Int32), σ)
def fX6_isDigit (σ : St) (x0 : Int32) : Option (Int32 × St) :=
  if x0 < (48 : Int32) then some ((0 : Int32), σ) else if (57 : Int32) < x0 then some ((0 : Int32), σ) else some ((1 : Int32), σ)
def fX6_afterNumber (σ : St) (x0 : Int32) : Option (Int32 × St) :=
  if x0 = (63 : Int32) then some ((5 : Int32), σ) else if x0 = (59 : Int32) then some ((0 : Int32), σ) else some ((-1 : Int32), σ)
def fX6_after_b68 (σ : St) : Option (Int32 × St) :=
  some ((1 : Int32), σ)
def fX6_after (σ : St) (x0 : Int32) (x1 : Int32) : Option (Int32 × St) :=
  if x0 = (0 : Int32) then if x1 = (97 : Int32) then fX6_after_b68 σ else if x1 = (109 : Int32) then fX6_after_b68 σ else if x1 = (108 : Int32) then fX6_after_b68 σ else if x1 = (103 : Int32) then fX6_after_b68 σ else some ((-1 : Int32), σ) else if x0 = (1 : Int32) then if x1 = (62 : Int32) then some ((2 : Int32), σ) else some ((-1 : Int32), σ) else if x0 = (2 : Int32) then Option.bind (fX6_isDigit σ x1) fun q9 => if q9.1 = 0 then some ((-1 : Int32), q9.2) else some ((3 : Int32), q9.2) else if x0 = (3 : Int32) then Option.bind (fX6_isDigit σ x1) fun q13 => if q13.1 = 0 then Option.bind (fX6_afterNumber q13.2 x1) fun q16 => some (q16.1, q16.2) else some ((4 : Int32), q13.2) else if x0 = (4 : Int32) then Option.bind (fX6_afterNumber σ x1) fun q19 => some (q19.1, q19.2) else if x0 = (5 : Int32) then if x1 < (49 : Int32) then some ((-1 : Int32), σ) else if (51 : Int32) < x1 then some ((-1 : Int32), σ) else some ((6 : Int32), σ) else if x0 = (6 : Int32) then if x1 = (59 : Int32) then some ((0 : Int32), σ) else some ((-1 : Int32), σ) else some ((-1 : Int32), σ)
def fX6_firstFault_b4 (rc4 : St → Int32 → Int32 → Option (Int32 × St)) (σ : St) (x1 : Int32) (x2 : Int32) : Option (Int32 × St) :=
  if (σ.2.1 2) ≤ x2 then Option.bind (fX6_mayEnd σ x1) fun q2 => if q2.1 = 0 then some ((q2.2.2.1 2), q2.2) else some ((-6 : Int32), q2.2) else if ib x2 40 = true then Option.bind (fX6_after σ x1 (σ.1 21 x2.toNatClampNeg)) fun q6 => if q6.1 = (-1 : Int32) then some (x2, q6.2) else rc4 q6.2 q6.1 (x2 + (1 : Int32)) else none
def fX6_firstFault_l4 : Nat → St → Int32 → Int32 → Option (Int32 × St)
  | 0 => fun _ _ _ => none
  | n + 1 => fun σ x1 x2 => fX6_firstFault_b4 (fX6_firstFault_l4 n) σ x1 x2 
def fX6_firstFault (σ : St) : Option (Int32 × St) :=
  fX6_firstFault_l4 gF σ (0 : Int32) (0 : Int32)
def fX8_fault (σ : St) : Option (Int32 × St) :=
  Option.bind (fX6_firstFault σ) fun q1 => some (q1.1, q1.2)
