/-! ===== worth ===== -/
def pm (σ : St) (p w : Nat) : Nat → Nat
  | 0 => 1
  | k + 1 => pm σ p w k * (if cN σ k p = 0 then 1 else wy σ k p w (mv σ k p))
theorem pm_le {σ μ : St} {J : Nat} (hJ : IvJ σ μ J) (p w : Nat) : ∀ k, k ≤ J → pm σ p w k ≤ 4 ^ k := by
  intro k
  induction k with
  | zero => intro _; exact Nat.le_refl 1
  | succ k ih =>
    intro h
    simp only [pm]
    rw [Nat.pow_succ]
    refine Nat.mul_le_mul (ih (by omega)) ?_
    by_cases c : cN σ k p = 0
    · rw [if_pos c]; omega
    · rw [if_neg c]; exact wy_le hJ (by omega) p w _
theorem waysM_l {σ μ : St} {J P : Nat} (hn : σ.2.1 0 = nI J) (hJ : IvJ σ μ J) (hP : IvP σ μ J P) (hk : MkOk σ) (h6 : J ≤ 6) (p6 : P ≤ 6) {p w : Nat} (hp : p < P) (hw : w ≤ 5) : ∀ (n k : Nat), k ≤ J → J - k < n → fX3_waysOfMarks_3_l6 n σ (nI p) (nI w) (lN (pm σ p w k)) (nI k) = some (lN (pm σ p w J), σ) := by
  intro n
  induction n with
  | zero => intro k h1 h2; omega
  | succ n ih =>
    intro k h1 h2
    show fX3_waysOfMarks_3_b6 (fX3_waysOfMarks_3_l6 n) σ (nI p) (nI w) (lN (pm σ p w k)) (nI k) = _
    unfold fX3_waysOfMarks_3_b6 fX3_waysOfMarks_3_b49
    rw [hn]
    by_cases h : k = J
    · subst h
      rw [if_pos (nI_le (Nat.le_refl k) (by omega))]
    · have hlt : k < J := by omega
      rw [if_neg (nI_ge hlt (by omega)), hasM_spec σ (show k < 6 by omega) (show p < 6 by omega), b_some, of_spec σ (show k < 6 by omega) (show p < 6 by omega), b_some, show nI k + (1 : Int32) = nI (k + 1) from nI_1 k, ← ih (k + 1) (by omega) (by omega)]
      dsimp only
      simp only [pm]
      rcases mv_val hk (show k < 6 by omega) (show p < 6 by omega) with ⟨q1, q2⟩ | ⟨q1, q2, q3⟩
      · rw [q1, if_pos (show nI 0 = (0 : Int32) from rfl), if_pos rfl, Nat.mul_one]
      · have hy := wy_le hJ hlt p w (mv σ k p)
        rw [q1, if_neg (show ¬ nI 1 = (0 : Int32) by decide), q3, ways_spec (sameC.rf σ) hn hJ hP h6 p6 hlt hp hw q2, b_some, if_neg (by omega)]
        dsimp only
        rw [n2l (by omega), lN_mul]
theorem likeM_l33 {σ μ : St} {J P : Nat} (hJ : IvJ σ μ J) (hP : IvP σ μ J P) (h6 : J ≤ 6) (p6 : P ≤ 6) {j p w : Nat} (hj : j < J) (hp : p < P) (hw : w ≤ 5) (rc : St → Int32 → Int32 → Int64 → Int32 → Option (Int64 × St)) (A : Int64) (v : Int32) : ∃ X : Int64, (∀ vv, vv ≤ 5 → v = nI vv → X = lN (wy σ j p w vv)) ∧ fX9_likeOf_l33 rc gF μ (nI p) (nI w) A (nI j) v 0 0 = if 0 ≤ v then fX9_likeOf_b90 rc μ (nI p) (nI w) (nI j) A X else fX9_likeOf_b90 rc μ (nI p) (nI w) (nI j) A 1 := by
  have hm0 := markOf_spec (sameM.rf μ) hJ hP h6 p6 hj hp hw (show 0 < 3 by omega)
  have hm1 := markOf_spec (sameM.rf μ) hJ hP h6 p6 hj hp hw (show 1 < 3 by omega)
  have hm2 := markOf_spec (sameM.rf μ) hJ hP h6 p6 hj hp hw (show 2 < 3 by omega)
  have hq0 := quart_spec (sameM.rf μ) hJ h6 hj (show 0 < 3 by omega)
  have hq1 := quart_spec (sameM.rf μ) hJ h6 hj (show 1 < 3 by omega)
  have hq2 := quart_spec (sameM.rf μ) hJ h6 hj (show 2 < 3 by omega)
  have hs := (sl_val hJ hj).1
  rw [show mt σ j p w + ((0 : Nat) : Int) - 1 = mt σ j p w - 1 by omega] at hm0
  rw [show mt σ j p w + ((1 : Nat) : Int) - 1 = mt σ j p w by omega] at hm1
  rw [show mt σ j p w + ((2 : Nat) : Int) - 1 = mt σ j p w + 1 by omega] at hm2
  have q0 : qt (sl σ j) 0 = sl σ j := rfl
  have q1 : qt (sl σ j) 1 = 4 - 2 * sl σ j := rfl
  have q2 : qt (sl σ j) 2 = sl σ j := rfl
  rw [q0] at hq0
  rw [q1] at hq1
  rw [q2] at hq2
  refine ⟨0 + (if nI (bd (mt σ j p w - 1)) = v then lN (sl σ j) else 0) + (if nI (bd (mt σ j p w)) = v then lN (4 - 2 * sl σ j) else 0) + (if nI (bd (mt σ j p w + 1)) = v then lN (sl σ j) else 0), ?_, ?_⟩
  · intro vv hvv hv
    subst hv
    unfold wy
    have e : ∀ a b : Nat, a ≤ 5 → (if nI a = nI vv then lN b else (0 : Int64)) = lN (if a = vv then b else 0) := by
      intro a b ha
      by_cases c : a = vv
      · subst c
        rw [if_pos rfl, if_pos rfl]
      · rw [if_neg c, if_neg (fun q => c (nI_inj (by omega) (by omega) q))]
        rfl
    rw [e _ _ (bd_le _), e _ _ (bd_le _), e _ _ (bd_le _), show (0 : Int64) = lN 0 from rfl, lN_add, lN_add, lN_add, Nat.zero_add]
  · have st : ∀ (n : Nat) (B : Int64) (y : Nat) (d : Int64) (m q : Nat), y < 3 → q ≤ 4 → fX9_markOf μ (nI j) (nI p) (nI w) (nI y) = some (nI m, μ) → fX9_quarters μ (nI j) (nI y) = some (nI q, μ) → fX9_likeOf_l33 rc (n + 1) μ (nI p) (nI w) A (nI j) v B (nI y) = fX9_likeOf_l33 rc n μ (nI p) (nI w) A (nI j) v (B + (if nI m = v then lN q else 0)) (nI (y + 1)) := by
      intro n B y d m q hy hq em eq
      show fX9_likeOf_b33 rc (fX9_likeOf_l33 rc n) μ _ _ _ _ _ _ _ = _
      unfold fX9_likeOf_b33 fX9_likeOf_b69
      rw [if_neg (show ¬ (3 : Int32) ≤ nI y from nI_ge (b := 3) hy (by omega)), em, b_some, eq, b_some, show nI y + (1 : Int32) = nI (y + 1) from nI_1 y, n2l (by omega)]
      dsimp only
      by_cases c : nI m = v
      · rw [if_pos c, if_pos c]
      · rw [if_neg c, if_neg c]
    show fX9_likeOf_l33 rc (19996 + 1 + 1 + 1 + 1) μ (nI p) (nI w) A (nI j) v 0 (nI 0) = _
    rw [st _ 0 0 0 _ _ (by omega) (by omega) hm0 hq0, st _ _ 1 0 _ _ (by omega) (by omega) hm1 hq1, st _ _ 2 0 _ _ (by omega) (by omega) hm2 hq2]
    rfl
theorem likeM_l {σ μ : St} {J P : Nat} (hn : μ.2.1 0 = nI J) (hJ : IvJ σ μ J) (hP : IvP σ μ J P) (hM : IvM σ μ J P) (h6 : J ≤ 6) (p6 : P ≤ 6) {p w : Nat} (hp : p < P) (hw : w ≤ 5) : ∀ (n k : Nat), k ≤ J → J - k < n → fX9_likeOf_l5 n μ (nI p) (nI w) (lN (pm σ p w k)) (nI k) = some (lN (pm σ p w J), μ) := by
  intro n
  induction n with
  | zero => intro k h1 h2; omega
  | succ n ih =>
    intro k h1 h2
    show fX9_likeOf_b5 (fX9_likeOf_l5 n) μ (nI p) (nI w) (lN (pm σ p w k)) (nI k) = _
    unfold fX9_likeOf_b5 fX9_at
    rw [hn]
    by_cases h : k = J
    · subst h
      rw [if_pos (nI_le (Nat.le_refl k) (by omega))]
    · have hlt : k < J := by omega
      rw [if_neg (nI_ge hlt (by omega)), b_some]
      dsimp only
      rw [at6', if_pos (ib_nI (show 6 * k + p < 36 by omega) (by omega)), nI_clamp (n := 6 * k + p) (by omega), (mk_facts hM hlt h6 (show p < 6 by omega)).1]
      obtain ⟨X, x1, x2⟩ := likeM_l33 hJ hP h6 p6 hlt hp hw (fX9_likeOf_l5 n) (lN (pm σ p w k)) (σ.1 19 (6 * k + p))
      rw [x2]
      unfold fX9_likeOf_b90
      rw [show nI k + (1 : Int32) = nI (k + 1) from nI_1 k, ← ih (k + 1) (by omega) (by omega)]
      simp only [pm]
      have hg := ge_cN (mk_or hM hlt h6 (show p < 6 by omega))
      rcases mv_val (mkok hM h6) (show k < 6 by omega) (show p < 6 by omega) with ⟨q1, q2⟩ | ⟨q1, q2, q3⟩
      · rw [if_neg (fun q => by have := hg.mp q; omega), if_pos q1, Nat.mul_one]
        rw [show (lN (pm σ p w k)) * (1 : Int64) = lN (pm σ p w k * 1) from lN_mul _ 1, Nat.mul_one]
      · rw [if_pos (hg.mpr q1), if_neg (by omega), x1 _ q2 q3, lN_mul]
def sw (σ : St) (p J : Nat) : Nat → Nat
  | 0 => 0
  | k + 1 => sw σ p J k + pm σ p k J
theorem sw_le {σ μ : St} {J : Nat} (hJ : IvJ σ μ J) (h6 : J ≤ 6) (p : Nat) : ∀ k, sw σ p J k ≤ 4096 * k := by
  intro k
  induction k with
  | zero => exact Nat.le_refl 0
  | succ k ih =>
    have h1 := pm_le hJ p k J (Nat.le_refl J)
    have h2 : 4 ^ J ≤ 4 ^ 6 := Nat.pow_le_pow_right (by omega) h6
    have h3 : (4 : Nat) ^ 6 = 4096 := by decide
    simp only [sw]
    omega
theorem worthC_l {σ μ : St} {J P : Nat} (hn : σ.2.1 0 = nI J) (hJ : IvJ σ μ J) (hP : IvP σ μ J P) (hk : MkOk σ) (h6 : J ≤ 6) (p6 : P ≤ 6) {p w : Nat} (hp : p < P) (hw : w ≤ 5) (part : Int32) : ∀ (n k : Nat), k ≤ 6 → 6 - k < n → fX8_worth_l41 n σ (nI p) (nI w) part (lN (sw σ p J k)) (nI k) = fX8_tell σ (lN (pm σ p w J)) (lN (sw σ p J 6)) part := by
  intro n
  induction n with
  | zero => intro k h1 h2; omega
  | succ n ih =>
    intro k h1 h2
    show fX8_worth_b41 (fX8_worth_l41 n) σ (nI p) (nI w) part (lN (sw σ p J k)) (nI k) = _
    unfold fX8_worth_b41
    by_cases h : k = 6
    · subst h
      rw [if_pos (show (5 : Int32) < nI 6 by decide), show fX3_waysOfMarks_3 σ (nI p) (nI w) = _ from waysM_l hn hJ hP hk h6 p6 hp hw gF 0 (by omega) (by simp [gF]; omega), b_some]
      dsimp only
      cases fX8_tell σ (lN (pm σ p w J)) (lN (sw σ p J 6)) part with
      | none => rfl
      | some q => rfl
    · rw [if_neg (show ¬ (5 : Int32) < nI k from fun q => by have := Int32.lt_iff_toInt_lt.mp q; rw [nI_toInt (by omega)] at this; have e : (5 : Int32).toInt = 5 := rfl; omega), show fX3_waysOfMarks_3 σ (nI p) (nI k) = _ from waysM_l hn hJ hP hk h6 p6 hp (show k ≤ 5 by omega) gF 0 (by omega) (by simp [gF]; omega), b_some, show nI k + (1 : Int32) = nI (k + 1) from nI_1 k, ← ih (k + 1) (by omega) (by omega)]
      dsimp only
      rw [lN_add]
      rfl
theorem worthM_l {σ μ : St} {J P : Nat} (hn : μ.2.1 0 = nI J) (hJ : IvJ σ μ J) (hP : IvP σ μ J P) (hM : IvM σ μ J P) (h6 : J ≤ 6) (p6 : P ≤ 6) {p w : Nat} (hp : p < P) (hw : w ≤ 5) (part : Int32) : ∀ (n k : Nat), k ≤ 6 → 6 - k < n → fX9_worth_l41 n μ (nI p) (nI w) part (lN (sw σ p J k)) (nI k) = if sw σ p J 6 = 0 then some (part.toInt64, μ) else fX9_lowest μ (lN (pm σ p w J)) (lN (sw σ p J 6)) part := by
  intro n
  induction n with
  | zero => intro k h1 h2; omega
  | succ n ih =>
    intro k h1 h2
    show fX9_worth_b41 (fX9_worth_l41 n) μ (nI p) (nI w) part (lN (sw σ p J k)) (nI k) = _
    unfold fX9_worth_b41
    by_cases h : k = 6
    · subst h
      have hl := sw_le hJ h6 p 6
      rw [if_pos (show (6 : Int32) ≤ nI 6 by decide), show fX9_likeOf μ (nI p) (nI w) = _ from likeM_l hn hJ hP hM h6 p6 hp hw gF 0 (by omega) (by simp [gF]; omega), b_some]
      dsimp only
      by_cases c : sw σ p J 6 = 0
      · rw [if_pos ((lg_cmp_eq _ _).mpr ((lN_z (by omega)).mpr c)), if_pos c]
      · rw [if_neg (fun q => c ((lN_z (by omega)).mp ((lg_cmp_eq _ _).mp q))), if_neg c]
        cases fX9_lowest μ (lN (pm σ p w J)) (lN (sw σ p J 6)) part with
        | none => rfl
        | some q => rfl
    · rw [if_neg (show ¬ (6 : Int32) ≤ nI k from nI_ge (b := 6) (by omega) (by omega)), show fX9_likeOf μ (nI p) (nI k) = _ from likeM_l hn hJ hP hM h6 p6 hp (show k ≤ 5 by omega) gF 0 (by omega) (by simp [gF]; omega), b_some, show nI k + (1 : Int32) = nI (k + 1) from nI_1 k, ← ih (k + 1) (by omega) (by omega)]
      dsimp only
      rw [lN_add]
      rfl
theorem part_out {a : Int32} (d : 0 ≤ a.toInt ∧ a.toInt < 2) : (if a = 0 then (0 : Int64) else 1) = a.toInt64 := by
  rcases (show a.toInt = 0 ∨ a.toInt = 1 by omega) with q | q
  · have e : a = 0 := Int32.toInt_inj.mp q
    rw [e]; rfl
  · have e : a = 1 := Int32.toInt_inj.mp q
    rw [e]; rfl
theorem op_worth : Op_worth Inv := by
  intro σ μ hI a1 a2 a3
  obtain ⟨J, P, S, C, hN, hJ, hP, hM, hR⟩ := id hI
  obtain ⟨n1, n2, n3, n4, n5, n6, n7, n8, n9, n10, n11, n12⟩ := id hN
  unfold fX8_worth fX9_worth
  simp only [hasP_spec n7 n2, isP_spec n8 n2, within_spec, in_spec, part_spec, partM_spec, b_some, bI_ne0, i2l_toInt]
  have f0 : (0 : Int32).toInt = 0 := rfl
  have f5 : (5 : Int32).toInt = 5 := rfl
  have g0 : (0 : Int64).toInt = 0 := rfl
  have g5 : (5 : Int64).toInt = 5 := rfl
  rw [f0, f5, g0, g5]
  by_cases c : 0 ≤ a1.toInt ∧ a1.toInt < P
  · rw [if_pos c, if_pos c]
    by_cases c2 : 0 ≤ a2.toInt ∧ a2.toInt ≤ 5
    · rw [if_pos c2, if_pos c2]
      by_cases d : 0 ≤ a3.toInt ∧ a3.toInt < 2
      · rw [if_pos d, if_pos d]
        obtain ⟨p, hp, rfl⟩ := nI_ex (N := P) c (by omega)
        obtain ⟨w, hw, rfl⟩ := nI_ex (N := 6) (x := a2) (by omega) (by omega)
        have h1 := worthC_l n5 hJ hP (mkok hM n1) n1 n2 hp (show w ≤ 5 by omega) a3 gF 0 (by omega) (by simp [gF])
        have h2 := worthM_l n6 hJ hP hM n1 n2 hp (show w ≤ 5 by omega) a3 gF 0 (by omega) (by simp [gF])
        have hl := sw_le hJ n1 p 6
        have hm := pm_le hJ p w J (Nat.le_refl J)
        have hm2 : 4 ^ J ≤ 4 ^ 6 := Nat.pow_le_pow_right (by omega) n1
        have hm3 : (4 : Nat) ^ 6 = 4096 := by decide
        have hU : (lN (pm σ p w J)).toInt = (pm σ p w J : Int) := lT (by omega)
        by_cases c0 : sw σ p J 6 = 0
        · rw [c0] at h1
          rw [if_pos c0] at h2
          exact ⟨a3.toInt64, σ, μ, (h1.trans (tell_zero σ hU (by omega) a3)).trans (by rw [part_out d]), h2, hI⟩
        · rw [if_neg c0] at h2
          exact ⟨_, σ, μ, h1.trans (tell_spec σ hU (by omega) (by omega) (by omega) a3), h2.trans (low_spec μ hU (by omega) (by omega) (by omega) a3), hI⟩
      · rw [if_neg d, if_neg d]
        exact ⟨_, _, _, rfl, rfl, hI⟩
    · rw [if_neg c2, if_neg c2]
      exact ⟨_, _, _, rfl, rfl, hI⟩
  · rw [if_neg c, if_neg c]
    exact ⟨_, _, _, rfl, rfl, hI⟩
