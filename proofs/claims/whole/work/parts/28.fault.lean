/-! ===== the signs' form, faults ===== -/
def dg (c : Int32) : Prop := 48 ≤ c.toInt ∧ c.toInt ≤ 57
def af (s : Nat) (c : Int32) : Nat :=
  if s = 0 then (if c = 97 ∨ c = 109 ∨ c = 108 ∨ c = 103 then 1 else 7)
  else if s = 1 then (if c = 62 then 2 else 7)
  else if s = 2 then (if 48 ≤ c.toInt ∧ c.toInt ≤ 57 then 3 else 7)
  else if s = 3 then (if 48 ≤ c.toInt ∧ c.toInt ≤ 57 then 4 else if c = 63 then 5 else if c = 59 then 0 else 7)
  else if s = 4 then (if c = 63 then 5 else if c = 59 then 0 else 7)
  else if s = 5 then (if 49 ≤ c.toInt ∧ c.toInt ≤ 51 then 6 else 7)
  else if s = 6 then (if c = 59 then 0 else 7)
  else 7
def afI (n : Nat) : Int32 := if n = 7 then -1 else nI n
theorem isDig_spec (σ : St) (c : Int32) : fX6_isDigit σ c = some (bI (48 ≤ c.toInt ∧ c.toInt ≤ 57), σ) := within_spec σ c 48 57
theorem after_spec (σ : St) (c : Int32) : ∀ s, s < 7 → fX6_after σ (nI s) c = some (afI (af s c), σ) := by
  intro s hs
  unfold fX6_after fX6_after_b68 fX6_afterNumber
  simp only [isDig_spec, b_some, bI_ne0]
  rcases (show s = 0 ∨ s = 1 ∨ s = 2 ∨ s = 3 ∨ s = 4 ∨ s = 5 ∨ s = 6 by omega) with rfl | rfl | rfl | rfl | rfl | rfl | rfl
  · rw [if_pos (show nI 0 = (0 : Int32) from rfl)]
    simp only [af, afI]
    by_cases c1 : c = 97
    · subst c1; rfl
    · by_cases c2 : c = 109
      · subst c2; rfl
      · by_cases c3 : c = 108
        · subst c3; rfl
        · by_cases c4 : c = 103
          · subst c4; rfl
          · simp [c1, c2, c3, c4]
  · rw [if_neg (by decide), if_pos (show nI 1 = (1 : Int32) from rfl)]
    simp only [af, afI]
    by_cases c1 : c = 62
    · subst c1; rfl
    · simp [c1]
  · rw [if_neg (by decide), if_neg (by decide), if_pos (show nI 2 = (2 : Int32) from rfl)]
    simp only [af, afI]
    by_cases c1 : 48 ≤ c.toInt ∧ c.toInt ≤ 57
    · simp only [if_pos c1]; rfl
    · simp only [if_neg c1]; rfl
  · rw [if_neg (by decide), if_neg (by decide), if_neg (by decide), if_pos (show nI 3 = (3 : Int32) from rfl)]
    simp only [af, afI]
    by_cases c1 : 48 ≤ c.toInt ∧ c.toInt ≤ 57
    · simp only [if_pos c1]; rfl
    · simp only [if_neg c1]
      by_cases c2 : c = 63
      · subst c2; rfl
      · by_cases c3 : c = 59
        · subst c3; rfl
        · simp [c2, c3]
  · rw [if_neg (by decide), if_neg (by decide), if_neg (by decide), if_neg (by decide), if_pos (show nI 4 = (4 : Int32) from rfl)]
    simp only [af, afI]
    by_cases c2 : c = 63
    · subst c2; rfl
    · by_cases c3 : c = 59
      · subst c3; rfl
      · simp [c2, c3]
  · rw [if_neg (by decide), if_neg (by decide), if_neg (by decide), if_neg (by decide), if_neg (by decide), if_pos (show nI 5 = (5 : Int32) from rfl)]
    simp only [af, afI]
    have e1 : (49 : Int32).toInt = 49 := rfl
    have e2 : (51 : Int32).toInt = 51 := rfl
    by_cases c1 : c < 49
    · have := Int32.lt_iff_toInt_lt.mp c1
      rw [if_pos c1]
      simp only [if_neg (show ¬ (49 ≤ c.toInt ∧ c.toInt ≤ 51) by omega)]
      rfl
    · have h1 : ¬ c.toInt < (49 : Int32).toInt := fun q => c1 (Int32.lt_iff_toInt_lt.mpr q)
      rw [if_neg c1]
      by_cases c2 : 51 < c
      · have := Int32.lt_iff_toInt_lt.mp c2
        rw [if_pos c2]
        simp only [if_neg (show ¬ (49 ≤ c.toInt ∧ c.toInt ≤ 51) by omega)]
        rfl
      · have h2 : ¬ (51 : Int32).toInt < c.toInt := fun q => c2 (Int32.lt_iff_toInt_lt.mpr q)
        rw [if_neg c2]
        simp only [if_pos (show 49 ≤ c.toInt ∧ c.toInt ≤ 51 by omega)]
        rfl
  · rw [if_neg (by decide), if_neg (by decide), if_neg (by decide), if_neg (by decide), if_neg (by decide), if_neg (by decide), if_pos (show nI 6 = (6 : Int32) from rfl)]
    simp only [af, afI]
    by_cases c3 : c = 59
    · subst c3; rfl
    · simp [c3]
theorem join_spec (σ : St) (c : Int32) : fX9_isJoin σ c = some (bI (c = 97 ∨ c = 109 ∨ c = 108 ∨ c = 103), σ) := by
  unfold fX9_isJoin fX9_isJoin_b24
  by_cases c1 : c = 97
  · subst c1; rfl
  · by_cases c2 : c = 109
    · subst c2; rfl
    · by_cases c3 : c = 108
      · subst c3; rfl
      · by_cases c4 : c = 103
        · subst c4; rfl
        · rw [if_neg c1, if_neg c2, if_neg c3, if_neg c4, bI_f (by simp [c1, c2, c3, c4])]
theorem ndg {c : Int32} (h : 48 ≤ c.toInt ∧ c.toInt ≤ 57) : ¬ c = 59 ∧ ¬ c = 63 := by
  refine ⟨fun q => ?_, fun q => ?_⟩
  · subst q; exact absurd h (by decide)
  · subst q; exact absurd h (by decide)
theorem step_spec (σ : St) (c : Int32) : ∀ s, s < 7 → fX9_stepOf σ (nI s) c = some (afI (af s c), σ) := by
  intro s hs
  unfold fX9_stepOf
  simp only [in_spec, join_spec, b_some, bI_ne0, i2l_toInt]
  have e48 : (48 : Int64).toInt = 48 := rfl
  have e57 : (57 : Int64).toInt = 57 := rfl
  have e49 : (49 : Int64).toInt = 49 := rfl
  have e51 : (51 : Int64).toInt = 51 := rfl
  rw [e48, e57, e49, e51]
  rcases (show s = 0 ∨ s = 1 ∨ s = 2 ∨ s = 3 ∨ s = 4 ∨ s = 5 ∨ s = 6 by omega) with rfl | rfl | rfl | rfl | rfl | rfl | rfl
  · rw [if_pos (show nI 0 = (0 : Int32) from rfl)]
    simp only [af, afI]
    by_cases c1 : c = 97 ∨ c = 109 ∨ c = 108 ∨ c = 103
    · simp only [if_pos c1]; rfl
    · simp only [if_neg c1]; rfl
  · rw [if_neg (by decide), if_pos (show nI 1 = (1 : Int32) from rfl)]
    simp only [af, afI]
    by_cases c1 : c = 62
    · subst c1; rfl
    · simp [c1]
  · rw [if_neg (by decide), if_neg (by decide), if_pos (show nI 2 = (2 : Int32) from rfl)]
    simp only [af, afI]
    by_cases c1 : 48 ≤ c.toInt ∧ c.toInt ≤ 57
    · simp only [if_pos c1]; rfl
    · simp only [if_neg c1]; rfl
  · rw [if_neg (by decide), if_neg (by decide), if_neg (by decide), if_pos (show nI 3 = (3 : Int32) from rfl), if_pos (show nI 3 = (3 : Int32) from rfl)]
    simp only [af, afI]
    by_cases c1 : 48 ≤ c.toInt ∧ c.toInt ≤ 57
    · obtain ⟨d1, d2⟩ := ndg c1
      simp only [if_pos c1, if_neg d1, if_neg d2]; rfl
    · simp only [if_neg c1]
      by_cases c2 : c = 63
      · subst c2; rfl
      · by_cases c3 : c = 59
        · subst c3; rfl
        · simp [c2, c3]
  · rw [if_neg (by decide), if_neg (by decide), if_neg (by decide), if_neg (by decide), if_pos (show nI 4 = (4 : Int32) from rfl), if_neg (show ¬ nI 4 = (3 : Int32) by decide)]
    simp only [af, afI]
    by_cases c2 : c = 63
    · subst c2; rfl
    · by_cases c3 : c = 59
      · subst c3; rfl
      · simp [c2, c3]
  · rw [if_neg (by decide), if_neg (by decide), if_neg (by decide), if_neg (by decide), if_neg (by decide), if_pos (show nI 5 = (5 : Int32) from rfl)]
    simp only [af, afI]
    by_cases c1 : 49 ≤ c.toInt ∧ c.toInt ≤ 51
    · simp only [if_pos c1]; rfl
    · simp only [if_neg c1]; rfl
  · rw [if_neg (by decide), if_neg (by decide), if_neg (by decide), if_neg (by decide), if_neg (by decide), if_neg (by decide), if_pos (show nI 6 = (6 : Int32) from rfl)]
    simp only [af, afI]
    by_cases c3 : c = 59
    · subst c3; rfl
    · simp [c3]
theorem af_le (s : Nat) (c : Int32) : af s c ≤ 7 := by
  unfold af
  repeat' split
  all_goals omega
theorem afI_7 : afI 7 = -1 := rfl
theorem afI_n {n : Nat} (h : n < 7) : afI n = nI n := by unfold afI; rw [if_neg (by omega)]
theorem afI_m1 {n : Nat} (h : n ≤ 7) : afI n = -1 ↔ n = 7 := by
  unfold afI
  by_cases hn : n = 7
  · rw [if_pos hn]; exact ⟨fun _ => hn, fun _ => rfl⟩
  · rw [if_neg hn]
    refine ⟨fun q => ?_, fun q => absurd q hn⟩
    have := nI_toInt (n := n) (by omega)
    rw [q] at this
    have e : (-1 : Int32).toInt = -1 := rfl
    omega
/-- the fault's place, from the sign i on in the state s -/
def ffr (sg : Nat → Int32) (S : Nat) : Nat → Nat → Nat → Option Nat
  | 0, _, _ => none
  | n + 1, s, i => if S ≤ i then (if s = 3 ∨ s = 4 ∨ s = 6 then none else some S) else if af s (sg i) = 7 then some i else ffr sg S n (af s (sg i)) (i + 1)
def ffI (o : Option Nat) : Int32 := match o with
  | none => -6
  | some k => nI k
theorem mayEnd_spec (σ : St) {s : Nat} (hs : s < 7) : fX6_mayEnd σ (nI s) = some (bI (s = 3 ∨ s = 4 ∨ s = 6), σ) := by
  unfold fX6_mayEnd fX6_mayEnd_b16
  rcases (show s = 0 ∨ s = 1 ∨ s = 2 ∨ s = 3 ∨ s = 4 ∨ s = 5 ∨ s = 6 by omega) with rfl | rfl | rfl | rfl | rfl | rfl | rfl <;> rfl
theorem firstFault_l {σ : St} {S : Nat} (hS : σ.2.1 2 = nI S) (h40 : S ≤ 40) : ∀ (n s i : Nat), s < 7 → i ≤ S → S - i < n → fX6_firstFault_l4 n σ (nI s) (nI i) = some (ffI (ffr (σ.1 21) S n s i), σ) := by
  intro n
  induction n with
  | zero => intro s i h0 h1 h2; omega
  | succ n ih =>
    intro s i h0 h1 h2
    show fX6_firstFault_b4 (fX6_firstFault_l4 n) σ (nI s) (nI i) = _
    unfold fX6_firstFault_b4
    rw [hS, mayEnd_spec σ h0, b_some]
    simp only [ffr, bI_ne0]
    by_cases hi : i = S
    · subst hi
      rw [if_pos (nI_le (Nat.le_refl i) (by omega)), if_pos (Nat.le_refl i), hS]
      by_cases c : s = 3 ∨ s = 4 ∨ s = 6
      · rw [if_pos c, if_pos c]; rfl
      · rw [if_neg c, if_neg c]; rfl
    · have hlt : i < S := by omega
      rw [if_neg (nI_ge hlt (by omega)), if_neg (show ¬ S ≤ i by omega), if_pos (ib_nI (show i < 40 by omega) (by omega)), nI_clamp (n := i) (by omega), after_spec σ _ s h0, b_some]
      dsimp only
      have hl := af_le s (σ.1 21 i)
      by_cases c : af s (σ.1 21 i) = 7
      · rw [if_pos ((afI_m1 hl).mpr c), if_pos c]; rfl
      · rw [if_neg (fun q => c ((afI_m1 hl).mp q)), if_neg c, afI_n (by omega), show nI i + (1 : Int32) = nI (i + 1) from nI_1 i]
        exact ih _ _ (by omega) (by omega) (by omega)
theorem faultM_l {μ : St} {S : Nat} (hS : μ.2.1 2 = nI S) (h40 : S ≤ 40) : ∀ (n s i : Nat), s < 7 → i ≤ S → S - i < n → fX9_fault_l4 n μ (nI s) (nI i) = some (ffI (ffr (μ.1 11) S n s i), μ) := by
  intro n
  induction n with
  | zero => intro s i h0 h1 h2; omega
  | succ n ih =>
    intro s i h0 h1 h2
    show fX9_fault_b4 (fX9_fault_l4 n) μ (nI s) (nI i) = _
    unfold fX9_fault_b4 fX9_fault_b51
    rw [hS]
    simp only [ffr]
    by_cases hi : i = S
    · subst hi
      rw [if_pos (nI_le (Nat.le_refl i) (by omega)), if_pos (Nat.le_refl i)]
      rcases (show s = 0 ∨ s = 1 ∨ s = 2 ∨ s = 3 ∨ s = 4 ∨ s = 5 ∨ s = 6 by omega) with rfl | rfl | rfl | rfl | rfl | rfl | rfl <;> rfl
    · have hlt : i < S := by omega
      rw [if_neg (nI_ge hlt (by omega)), if_neg (show ¬ S ≤ i by omega), if_pos (ib_nI (show i < 40 by omega) (by omega)), nI_clamp (n := i) (by omega), step_spec μ _ s h0, b_some]
      dsimp only
      have hl := af_le s (μ.1 11 i)
      by_cases c : af s (μ.1 11 i) = 7
      · rw [c, afI_7, if_neg (by decide), if_pos rfl]; rfl
      · rw [afI_n (by omega), if_pos (nI_pos' (by omega)), if_neg c, show nI i + (1 : Int32) = nI (i + 1) from nI_1 i]
        exact ih _ _ (by omega) (by omega) (by omega)
theorem ffr_eq {f g : Nat → Int32} {S : Nat} (h : ∀ i, i < S → f i = g i) : ∀ n s i, ffr f S n s i = ffr g S n s i := by
  intro n
  induction n with
  | zero => intro s i; rfl
  | succ n ih =>
    intro s i
    simp only [ffr]
    by_cases hi : S ≤ i
    · rw [if_pos hi, if_pos hi]
    · rw [if_neg hi, if_neg hi, h i (by omega), ih]
theorem op_fault : Op_fault Inv := by
  intro σ μ hI
  obtain ⟨J, P, S, C, hN, hJ, hP, hM, hR⟩ := id hI
  obtain ⟨n1, n2, n3, n4, n5, n6, n7, n8, n9, n10, n11, n12⟩ := id hN
  have e1 : fX6_firstFault σ = _ := firstFault_l n9 n3 gF 0 0 (by omega) (by omega) (by simp [gF]; omega)
  have e2 : fX9_fault μ = _ := faultM_l n10 n3 gF 0 0 (by omega) (by omega) (by simp [gF]; omega)
  unfold fX8_fault
  rw [e1, b_some, e2, ffr_eq (fun i hi => hR.1 i hi)]
  exact ⟨_, _, _, rfl, rfl, hI⟩
