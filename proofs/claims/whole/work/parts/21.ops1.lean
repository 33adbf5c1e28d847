/-! ===== the calls that set things: judge, paper, tie, mark, set, say, wipe, bid ===== -/
theorem b_some {α β : Type} (x : α) (f : α → Option β) : Option.bind (some x) f = f x := rfl
theorem z32 : (0 : Int32).toInt = 0 := rfl
theorem addJ_spec {σ : St} {J : Nat} (hJ : σ.2.1 0 = nI J) (h6 : J ≤ 6) (x y : Int32) : fX0_add σ x y = if J < 6 then some (nI J, uI (uA (uA σ 10 J x) 11 J y) 0 (nI (J + 1))) else some (-4, σ) := by
  unfold fX0_add
  simp only [uA_I, hJ]
  by_cases h : J < 6
  · rw [if_pos (show nI J < (6 : Int32) from nI_lt (b := 6) h (by omega)), if_pos (ib_nI h (by omega)), if_pos (ib_nI h (by omega)), if_pos h, nI_clamp (n := J) (by omega)]
    rw [show nI J + (1 : Int32) = nI (J + 1) from nI_1 J]
  · rw [if_neg (show ¬ nI J < (6 : Int32) from nI_nlt (b := 6) (by omega) (by omega)), if_neg h]
theorem judgeM_l {J : Nat} (h6 : J < 6) : ∀ (n p : Nat) (μ : St), p ≤ 6 → 6 - p < n → μ.2.1 0 = nI J → ∃ μ' : St, fX9_judge_l63 n μ (nI p) = some (nI J, μ') ∧ μ'.2.1 = (uI μ 0 (nI (J + 1))).2.1 ∧ (∀ k, k ≠ 9 → μ'.1 k = μ.1 k) ∧ ∀ i, μ'.1 9 i = if 6 * J + p ≤ i ∧ i < 6 * J + 6 then -6 else μ.1 9 i := by
  intro n
  induction n with
  | zero => intro p μ h1 h2; omega
  | succ n ih =>
    intro p μ h1 h2 hJ
    show ∃ μ', fX9_judge_b63 (fX9_judge_l63 n) μ (nI p) = _ ∧ _
    unfold fX9_judge_b63
    by_cases hp : p = 6
    · subst hp
      rw [if_pos (show (6 : Int32) ≤ nI 6 by decide)]
      simp only [uI_same, hJ]
      rw [show nI J + (1 : Int32) = nI (J + 1) from nI_1 J, show nI (J + 1) - (1 : Int32) = nI J from nI_pred J]
      refine ⟨_, rfl, rfl, fun k _ => rfl, fun i => ?_⟩
      rw [if_neg (by omega)]
      rfl
    · have hlt : p < 6 := by omega
      rw [if_neg (show ¬ (6 : Int32) ≤ nI p from nI_ge (b := 6) hlt (by omega))]
      unfold fX9_at
      rw [b_some]
      dsimp only
      rw [hJ, at6', if_pos (ib_nI (show 6 * J + p < 36 by omega) (by omega)), nI_clamp (n := 6 * J + p) (by omega), show nI p + (1 : Int32) = nI (p + 1) from nI_1 p]
      obtain ⟨μ', e1, e2, e3, e4⟩ := ih (p + 1) (uA μ 9 (6 * J + p) (-6)) (by omega) (by omega) hJ
      refine ⟨μ', e1, e2, fun k hk => by rw [e3 k hk, uA_ne _ _ _ hk], fun i => ?_⟩
      rw [e4 i, uA_same]
      by_cases h3 : 6 * J + (p + 1) ≤ i ∧ i < 6 * J + 6
      · rw [if_pos h3, if_pos (by omega)]
      · rw [if_neg h3]
        by_cases h4 : i = 6 * J + p
        · subst h4
          rw [if_pos (by omega)]
          exact pk_us
        · rw [if_neg (by omega)]
          exact pk_un h4
theorem op_judge : Op_judge Inv := by
  intro σ μ hI a1 a2
  obtain ⟨J, P, S, C, ⟨n1, n2, n3, n4, n5, n6, n7, n8, n9, n10, n11, n12⟩, ⟨j1, j2, j3, j4⟩, hP, hM, hR⟩ := id hI
  unfold fX8_judge fX9_judge
  simp only [within_spec, in_spec, b_some, bI_ne0, i2l_toInt]
  by_cases c1 : (-2 : Int32).toInt ≤ a1.toInt ∧ a1.toInt ≤ (2 : Int32).toInt
  · rw [if_pos c1, if_pos (show (-2 : Int64).toInt ≤ a1.toInt ∧ a1.toInt ≤ (2 : Int64).toInt from c1)]
    by_cases c2 : (0 : Int32).toInt ≤ a2.toInt ∧ a2.toInt ≤ (2 : Int32).toInt
    · rw [if_pos c2, if_pos (show (0 : Int64).toInt ≤ a2.toInt ∧ a2.toInt ≤ (2 : Int64).toInt from c2)]
      rw [addJ_spec n5 n1, n6]
      simp only [uA_I, n6]
      by_cases h6 : J < 6
      · rw [if_pos h6, if_neg (show ¬ nI J = (6 : Int32) from fun q => by have := nI_inj (b := 6) (by omega) (by omega) q; omega), if_pos (ib_nI h6 (by omega)), if_pos (ib_nI h6 (by omega)), nI_clamp (n := J) (by omega)]
        obtain ⟨μ', e1, e2, e3, e4⟩ := judgeM_l h6 gF 0 (uA (uA μ 1 J a1) 2 J a2) (by omega) (by simp [gF]) n6
        refine ⟨nI J, _, μ', rfl, e1, J + 1, P, S, C, ?_, ?_, ?_, ?_, ?_⟩
        · have q0 : μ'.2.1 0 = nI (J + 1) := by rw [e2]; exact uI_same _ _ _
          have q : ∀ k, k ≠ 0 → μ'.2.1 k = μ.2.1 k := fun k hk => by rw [e2, uI_ne _ _ hk]; rfl
          have r : ∀ k, k ≠ 0 → (uI (uA (uA σ 10 J a1) 11 J a2) 0 (nI (J + 1))).2.1 k = σ.2.1 k := fun k hk => by rw [uI_ne _ _ hk]; rfl
          exact ⟨by omega, n2, n3, n4, uI_same _ _ _, q0, by rw [r 1 (by decide)]; exact n7, by rw [q 1 (by decide)]; exact n8, by rw [r 2 (by decide)]; exact n9, by rw [q 2 (by decide)]; exact n10, by rw [r 3 (by decide)]; exact n11, by rw [q 3 (by decide)]; exact n12⟩
        · unfold IvJ
          rw [e3 1 (by decide), e3 2 (by decide), e3 3 (by decide), e3 4 (by decide)]
          exact ⟨upd_last (f := σ.1 10) (g := μ.1 1) (Q := fun x => inR x (-2) 2) j1 c1, upd_last (f := σ.1 11) (g := μ.1 2) (Q := fun x => inR x 0 2) j2 c2, j3, j4⟩
        · obtain ⟨p1, p2, p3, p4, p5⟩ := hP
          have q : ∀ k, k ≠ 9 → k ≠ 1 → k ≠ 2 → μ'.1 k = μ.1 k := fun k h1 h2 h3 => by rw [e3 k h1, uA_ne _ _ _ h3, uA_ne _ _ _ h2]
          have r : ∀ k, k ≠ 10 → k ≠ 11 → (uI (uA (uA σ 10 J a1) 11 J a2) 0 (nI (J + 1))).1 k = σ.1 k := fun k h1 h2 => by rw [uI_A, uA_ne _ _ _ h2, uA_ne _ _ _ h1]
          refine ⟨fun i hi => ?_, fun i hi => ?_, fun i hi => ?_, fun i hi => ?_, fun i hi => ?_⟩
          · rw [r 14 (by decide) (by decide), q 5 (by decide) (by decide) (by decide)]; exact p1 i hi
          · rw [r 15 (by decide) (by decide), q 6 (by decide) (by decide) (by decide)]
            obtain ⟨x1, x2⟩ := p2 i hi
            refine ⟨x1, ?_⟩
            rcases x2 with x2 | ⟨w, x2, x3⟩
            · exact Or.inl x2
            · exact Or.inr ⟨w, by omega, x3⟩
          · rw [r 16 (by decide) (by decide), q 7 (by decide) (by decide) (by decide)]; exact p3 i hi
          · rw [r 17 (by decide) (by decide), q 8 (by decide) (by decide) (by decide)]; exact p4 i hi
          · rw [r 18 (by decide) (by decide), q 10 (by decide) (by decide) (by decide)]; exact p5 i hi
        · intro j p hj hp
          have r : (uI (uA (uA σ 10 J a1) 11 J a2) 0 (nI (J + 1))).1 19 = σ.1 19 := by rw [uI_A, uA_ne _ _ _ (by decide), uA_ne _ _ _ (by decide)]
          have q6 : μ'.1 6 = μ.1 6 := by rw [e3 6 (by decide), uA_ne _ _ _ (by decide), uA_ne _ _ _ (by decide)]
          have q9 : (uA (uA μ 1 J a1) 2 J a2).1 9 = μ.1 9 := by rw [uA_ne _ _ _ (by decide), uA_ne _ _ _ (by decide)]
          rw [r, e4, q9, q6]
          obtain ⟨x1, x2⟩ := hM j p hj hp
          refine ⟨fun h => ?_, fun h => x2 (by omega)⟩
          by_cases hjJ : j = J
          · subst hjJ
            rw [if_pos (by omega)]
            exact ⟨x2 (by omega), Or.inl rfl⟩
          · rw [if_neg (by omega)]
            exact x1 (by omega)
        · obtain ⟨r1, r2, r3, r4⟩ := hR
          have q : ∀ k, k ≠ 9 → k ≠ 1 → k ≠ 2 → μ'.1 k = μ.1 k := fun k h1 h2 h3 => by rw [e3 k h1, uA_ne _ _ _ h3, uA_ne _ _ _ h2]
          have r : ∀ k, k ≠ 10 → k ≠ 11 → (uI (uA (uA σ 10 J a1) 11 J a2) 0 (nI (J + 1))).1 k = σ.1 k := fun k h1 h2 => by rw [uI_A, uA_ne _ _ _ h2, uA_ne _ _ _ h1]
          unfold IvR
          rw [r 21 (by decide) (by decide), r 22 (by decide) (by decide), r 23 (by decide) (by decide), r 24 (by decide) (by decide), q 11 (by decide) (by decide) (by decide), q 12 (by decide) (by decide) (by decide), q 13 (by decide) (by decide) (by decide), q 14 (by decide) (by decide) (by decide)]
          exact ⟨r1, r2, r3, r4⟩
      · have : J = 6 := by omega
        subst this
        rw [if_neg h6, if_pos (show nI 6 = (6 : Int32) from rfl)]
        exact ⟨_, _, _, rfl, rfl, hI⟩
    · rw [if_neg c2, if_neg (show ¬ ((0 : Int64).toInt ≤ a2.toInt ∧ a2.toInt ≤ (2 : Int64).toInt) from c2)]
      exact ⟨_, _, _, rfl, rfl, hI⟩
  · rw [if_neg c1, if_neg (show ¬ ((-2 : Int64).toInt ≤ a1.toInt ∧ a1.toInt ≤ (2 : Int64).toInt) from c1)]
    exact ⟨_, _, _, rfl, rfl, hI⟩
