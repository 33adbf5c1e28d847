theorem addP_spec {σ : St} {P : Nat} (hP : σ.2.1 1 = nI P) (h6 : P ≤ 6) (x y : Int32) : fX4_add σ x y = if P < 6 then some (nI P, uI (uA (uA (uA σ 14 P x) 15 P y) 17 P (-6)) 1 (nI (P + 1))) else some (-4, σ) := by
  unfold fX4_add
  simp only [uA_I, hP]
  by_cases h : P < 6
  · rw [if_pos (show nI P < (6 : Int32) from nI_lt (b := 6) h (by omega)), if_pos (ib_nI h (by omega)), if_pos (ib_nI h (by omega)), if_pos (ib_nI h (by omega)), if_pos h, nI_clamp (n := P) (by omega)]
    rw [show nI P + (1 : Int32) = nI (P + 1) from nI_1 P]
  · rw [if_neg (show ¬ nI P < (6 : Int32) from nI_nlt (b := 6) (by omega) (by omega)), if_neg h]
theorem paperM_spec {μ : St} {P : Nat} (hP : μ.2.1 1 = nI P) (h6 : P ≤ 6) (x y : Int32) : fX9_paper_b16 μ x y = if 0 ≤ x.toInt ∧ x.toInt ≤ 5 then (if P < 6 then some (nI P, uI (uA (uA (uA μ 5 P x) 6 P y) 8 P (-6)) 1 (nI (P + 1))) else some (-4, μ)) else some (-2, μ) := by
  unfold fX9_paper_b16
  simp only [in_spec, b_some, bI_ne0, i2l_toInt, uA_I, hP, uI_same]
  by_cases c : 0 ≤ x.toInt ∧ x.toInt ≤ 5
  · rw [if_pos c, if_pos (show (0 : Int64).toInt ≤ x.toInt ∧ x.toInt ≤ (5 : Int64).toInt from c)]
    by_cases h : P < 6
    · rw [if_neg (show ¬ nI P = (6 : Int32) from fun q => by have := nI_inj (b := 6) (by omega) (by omega) q; omega), if_pos (ib_nI h (by omega)), if_pos (ib_nI h (by omega)), if_pos (ib_nI h (by omega)), if_pos h, nI_clamp (n := P) (by omega)]
      rw [show nI P + (1 : Int32) = nI (P + 1) from nI_1 P, show nI (P + 1) - (1 : Int32) = nI P from nI_pred P]
    · have : P = 6 := by omega
      subst this
      rw [if_pos (show nI 6 = (6 : Int32) from rfl), if_neg h]
  · rw [if_neg c, if_neg (show ¬ ((0 : Int64).toInt ≤ x.toInt ∧ x.toInt ≤ (5 : Int64).toInt) from c)]
theorem paper_inv {σ μ : St} {J P S C : Nat} (hN : IvN σ μ J P S C) (hJ : IvJ σ μ J) (hP : IvP σ μ J P) (hM : IvM σ μ J P) (hR : IvR σ μ S C) {a1 a2 : Int32} (c1 : 0 ≤ a1.toInt ∧ a1.toInt ≤ 5) (c2 : a2 = -6 ∨ ∃ w, w < J ∧ a2 = nI w) (h6 : P < 6) : Inv (uI (uA (uA (uA σ 14 P a1) 15 P a2) 17 P (-6)) 1 (nI (P + 1))) (uI (uA (uA (uA μ 5 P a1) 6 P a2) 8 P (-6)) 1 (nI (P + 1))) := by
  obtain ⟨n1, n2, n3, n4, n5, n6, n7, n8, n9, n10, n11, n12⟩ := hN
  have r : ∀ k, k ≠ 14 → k ≠ 15 → k ≠ 17 → (uI (uA (uA (uA σ 14 P a1) 15 P a2) 17 P (-6)) 1 (nI (P + 1))).1 k = σ.1 k := fun k h1 h2 h3 => by rw [uI_A, uA_ne _ _ _ h3, uA_ne _ _ _ h2, uA_ne _ _ _ h1]
  have q : ∀ k, k ≠ 5 → k ≠ 6 → k ≠ 8 → (uI (uA (uA (uA μ 5 P a1) 6 P a2) 8 P (-6)) 1 (nI (P + 1))).1 k = μ.1 k := fun k h1 h2 h3 => by rw [uI_A, uA_ne _ _ _ h3, uA_ne _ _ _ h2, uA_ne _ _ _ h1]
  have r14 : (uI (uA (uA (uA σ 14 P a1) 15 P a2) 17 P (-6)) 1 (nI (P + 1))).1 14 = upd (σ.1 14) P a1 := by rw [uI_A, uA_ne _ _ _ (by decide), uA_ne _ _ _ (by decide), uA_same]
  have r15 : (uI (uA (uA (uA σ 14 P a1) 15 P a2) 17 P (-6)) 1 (nI (P + 1))).1 15 = upd (σ.1 15) P a2 := by rw [uI_A, uA_ne _ _ _ (by decide), uA_same, uA_ne _ _ _ (by decide)]
  have r17 : (uI (uA (uA (uA σ 14 P a1) 15 P a2) 17 P (-6)) 1 (nI (P + 1))).1 17 = upd (σ.1 17) P (-6) := by rw [uI_A, uA_same, uA_ne _ _ _ (by decide), uA_ne _ _ _ (by decide)]
  have q5 : (uI (uA (uA (uA μ 5 P a1) 6 P a2) 8 P (-6)) 1 (nI (P + 1))).1 5 = upd (μ.1 5) P a1 := by rw [uI_A, uA_ne _ _ _ (by decide), uA_ne _ _ _ (by decide), uA_same]
  have q6 : (uI (uA (uA (uA μ 5 P a1) 6 P a2) 8 P (-6)) 1 (nI (P + 1))).1 6 = upd (μ.1 6) P a2 := by rw [uI_A, uA_ne _ _ _ (by decide), uA_same, uA_ne _ _ _ (by decide)]
  have q8 : (uI (uA (uA (uA μ 5 P a1) 6 P a2) 8 P (-6)) 1 (nI (P + 1))).1 8 = upd (μ.1 8) P (-6) := by rw [uI_A, uA_same, uA_ne _ _ _ (by decide), uA_ne _ _ _ (by decide)]
  have ri : ∀ k, k ≠ 1 → (uI (uA (uA (uA σ 14 P a1) 15 P a2) 17 P (-6)) 1 (nI (P + 1))).2.1 k = σ.2.1 k := fun k hk => by rw [uI_ne _ _ hk]; rfl
  have qi : ∀ k, k ≠ 1 → (uI (uA (uA (uA μ 5 P a1) 6 P a2) 8 P (-6)) 1 (nI (P + 1))).2.1 k = μ.2.1 k := fun k hk => by rw [uI_ne _ _ hk]; rfl
  refine ⟨J, P + 1, S, C, ?_, ?_, ?_, ?_, ?_⟩
  · exact ⟨n1, by omega, n3, n4, by rw [ri 0 (by decide)]; exact n5, by rw [qi 0 (by decide)]; exact n6, uI_same _ _ _, uI_same _ _ _, by rw [ri 2 (by decide)]; exact n9, by rw [qi 2 (by decide)]; exact n10, by rw [ri 3 (by decide)]; exact n11, by rw [qi 3 (by decide)]; exact n12⟩
  · unfold IvJ at *
    rw [r 10 (by decide) (by decide) (by decide), r 11 (by decide) (by decide) (by decide), r 12 (by decide) (by decide) (by decide), r 13 (by decide) (by decide) (by decide), q 1 (by decide) (by decide) (by decide), q 2 (by decide) (by decide) (by decide), q 3 (by decide) (by decide) (by decide), q 4 (by decide) (by decide) (by decide)]
    exact hJ
  · obtain ⟨p1, p2, p3, p4, p5⟩ := hP
    unfold IvP
    rw [r14, r15, r17, q5, q6, q8, r 16 (by decide) (by decide) (by decide), r 18 (by decide) (by decide) (by decide), q 7 (by decide) (by decide) (by decide), q 10 (by decide) (by decide) (by decide)]
    refine ⟨fun i hi => ?_, fun i hi => ?_, p3, fun i hi => ?_, p5⟩
    · by_cases h : i = P
      · subst h
        rw [pk_us, pk_us]
        exact ⟨rfl, c1⟩
      · rw [pk_un h, pk_un h]
        exact p1 i (by omega)
    · by_cases h : i = P
      · subst h
        rw [pk_us, pk_us]
        exact ⟨rfl, c2⟩
      · rw [pk_un h, pk_un h]
        exact p2 i (by omega)
    · by_cases h : i = P
      · subst h
        rw [pk_us, pk_us]
        exact ⟨rfl, Or.inl rfl⟩
      · rw [pk_un h, pk_un h]
        exact p4 i (by omega)
  · intro j p hj hp
    rw [r 19 (by decide) (by decide) (by decide), q 9 (by decide) (by decide) (by decide), q6]
    obtain ⟨x1, x2⟩ := hM j p hj hp
    refine ⟨fun h => ?_, x2⟩
    obtain ⟨y1, y2⟩ := x1 h
    refine ⟨y1, ?_⟩
    rcases y2 with y2 | ⟨y2, y3, y4⟩
    · exact Or.inl y2
    · exact Or.inr ⟨by omega, y3, by rw [pk_un (by omega)]; exact y4⟩
  · unfold IvR at *
    rw [r 21 (by decide) (by decide) (by decide), r 22 (by decide) (by decide) (by decide), r 23 (by decide) (by decide) (by decide), r 24 (by decide) (by decide) (by decide), q 11 (by decide) (by decide) (by decide), q 12 (by decide) (by decide) (by decide), q 13 (by decide) (by decide) (by decide), q 14 (by decide) (by decide) (by decide)]
    exact hR
theorem paper_both {σ μ : St} (hI : Inv σ μ) {J P S C : Nat} (hN : IvN σ μ J P S C) (hJ : IvJ σ μ J) (hP : IvP σ μ J P) (hM : IvM σ μ J P) (hR : IvR σ μ S C) (a1 a2 : Int32) (c2 : a2 = -6 ∨ ∃ w, w < J ∧ a2 = nI w) : ∃ (r : Int32) (σ' μ' : St), fX8_paper_b19 σ a1 a2 = some (r, σ') ∧ fX9_paper_b16 μ a1 a2 = some (r, μ') ∧ Inv σ' μ' := by
  obtain ⟨n1, n2, n3, n4, n5, n6, n7, n8, n9, n10, n11, n12⟩ := id hN
  rw [paperM_spec n8 n2]
  unfold fX8_paper_b19
  simp only [within_spec, b_some, bI_ne0, addP_spec n7 n2]
  by_cases c : 0 ≤ a1.toInt ∧ a1.toInt ≤ 5
  · rw [if_pos c, if_pos (show (0 : Int32).toInt ≤ a1.toInt ∧ a1.toInt ≤ (5 : Int32).toInt from c)]
    by_cases h : P < 6
    · rw [if_pos h, if_pos h]
      exact ⟨_, _, _, rfl, rfl, paper_inv hN hJ hP hM hR c c2 h⟩
    · rw [if_neg h, if_neg h]
      exact ⟨_, _, _, rfl, rfl, hI⟩
  · rw [if_neg c, if_neg (show ¬ ((0 : Int32).toInt ≤ a1.toInt ∧ a1.toInt ≤ (5 : Int32).toInt) from c)]
    exact ⟨_, _, _, rfl, rfl, hI⟩
theorem op_paper : Op_paper Inv := by
  intro σ μ hI a1 a2
  obtain ⟨J, P, S, C, hN, hJ, hP, hM, hR⟩ := id hI
  obtain ⟨n1, n2, n3, n4, n5, n6, n7, n8, n9, n10, n11, n12⟩ := id hN
  unfold fX8_paper fX9_paper
  simp only [has_spec n5 n1, isJ_spec n6 n1, b_some, bI_ne0]
  by_cases h : a2 = -6
  · rw [if_pos h, if_pos h]
    exact paper_both hI hN hJ hP hM hR a1 a2 (Or.inl h)
  · rw [if_neg h, if_neg h]
    by_cases c : 0 ≤ a2.toInt ∧ a2.toInt < J
    · rw [if_pos c, if_pos c]
      exact paper_both hI hN hJ hP hM hR a1 a2 (Or.inr (nI_ex c (by omega)))
    · rw [if_neg c, if_neg c]
      exact ⟨_, _, _, rfl, rfl, hI⟩
