/-! ===== set ===== -/
theorem op_set : Op_set Inv := by
  intro σ μ hI a1 a2 a3
  obtain ⟨J, P, S, C, hN, hJ, hP, hM, hR⟩ := id hI
  obtain ⟨n1, n2, n3, n4, n5, n6, n7, n8, n9, n10, n11, n12⟩ := id hN
  unfold fX8_set fX9_set
  simp only [has_spec n5 n1, hasP_spec n7 n2, isJ_spec n6 n1, isP_spec n8 n2, in_spec, b_some, bI_ne0, i2l_toInt]
  by_cases k0 : a1 = 0
  · subst k0
    rw [if_pos rfl, if_pos (by decide), if_pos rfl]
    unfold fX8_setKeys_12
    rw [bI_ne0]
    by_cases c2 : 0 ≤ a2.toInt ∧ a2.toInt < J
    · rw [if_pos c2, if_pos c2]
      obtain ⟨a, ha, rfl⟩ := nI_ex c2 (by omega)
      unfold fX9_set_b40 fX9_set_b54 fX9_set_b68 fX9_set_b110 fX8_replace_12
      rw [if_neg (by decide), if_neg (by decide)]
      simp only [within_spec, in_spec, b_some, bI_ne0, i2l_toInt]
      by_cases c3 : (0 : Int32).toInt ≤ a3.toInt ∧ a3.toInt ≤ (63 : Int32).toInt
      · rw [if_pos c3, if_pos (show (0 : Int64).toInt ≤ a3.toInt ∧ a3.toInt ≤ (63 : Int64).toInt from c3)]
        have hib : ib (nI a) 6 = true := ib_nI (by omega) (by omega)
        have hcl : (nI a).toNatClampNeg = a := nI_clamp (by omega)
        simp only [hib, hcl, ↓reduceIte, b_some, (hJ.2.2.1 a (by omega)).1]
        exact ⟨_, _, _, rfl, rfl, Inv_jkey hI a c3⟩
      · rw [if_neg c3, if_neg (show ¬ ((0 : Int64).toInt ≤ a3.toInt ∧ a3.toInt ≤ (63 : Int64).toInt) from c3)]
        exact ⟨_, _, _, rfl, rfl, hI⟩
    · rw [if_neg c2, if_neg c2]
      exact ⟨_, _, _, rfl, rfl, hI⟩
  · rw [if_neg k0]
    by_cases k1 : a1 = 1
    · subst k1
      rw [if_pos rfl, if_pos (by decide), if_neg (by decide)]
      unfold fX8_setKeys_16
      rw [bI_ne0]
      by_cases c2 : 0 ≤ a2.toInt ∧ a2.toInt < P
      · rw [if_pos c2, if_pos c2]
        obtain ⟨a, ha, rfl⟩ := nI_ex c2 (by omega)
        unfold fX9_set_b40 fX9_set_b54 fX9_set_b68 fX9_set_b110 fX8_replace_16
        rw [if_neg (by decide), if_neg (by decide)]
        simp only [within_spec, in_spec, b_some, bI_ne0, i2l_toInt]
        by_cases c3 : (0 : Int32).toInt ≤ a3.toInt ∧ a3.toInt ≤ (63 : Int32).toInt
        · rw [if_pos c3, if_pos (show (0 : Int64).toInt ≤ a3.toInt ∧ a3.toInt ≤ (63 : Int64).toInt from c3)]
          have hib : ib (nI a) 6 = true := ib_nI (by omega) (by omega)
          have hcl : (nI a).toNatClampNeg = a := nI_clamp (by omega)
          simp only [hib, hcl, ↓reduceIte, b_some, (hP.2.2.1 a (by omega)).1, show ¬ (1 : Int32) = 0 by decide]
          exact ⟨_, _, _, rfl, rfl, Inv_pkey hI a c3⟩
        · rw [if_neg c3, if_neg (show ¬ ((0 : Int64).toInt ≤ a3.toInt ∧ a3.toInt ≤ (63 : Int64).toInt) from c3)]
          exact ⟨_, _, _, rfl, rfl, hI⟩
      · rw [if_neg c2, if_neg c2]
        exact ⟨_, _, _, rfl, rfl, hI⟩
    · rw [if_neg k1]
      by_cases k2 : a1 = 2
      · subst k2
        rw [if_pos rfl, if_pos (by decide), if_neg (by decide)]
        unfold fX8_setLater
        simp only [hasP_spec n7 n2, b_some, bI_ne0]
        by_cases c2 : 0 ≤ a2.toInt ∧ a2.toInt < P
        · rw [if_pos c2, if_pos c2]
          obtain ⟨a, ha, rfl⟩ := nI_ex c2 (by omega)
          unfold fX9_set_b40 fX9_set_b54 fX9_set_b68 fX9_set_b110 fX8_setLater_b45 fX8_replace_17
          rw [if_pos rfl, if_pos rfl]
          simp only [within_spec, in_spec, b_some, bI_ne0, i2l_toInt]
          by_cases c3 : (-1 : Int32).toInt ≤ a3.toInt ∧ a3.toInt ≤ (9 : Int32).toInt
          · rw [if_pos c3, if_pos (show (-1 : Int64).toInt ≤ a3.toInt ∧ a3.toInt ≤ (9 : Int64).toInt from c3)]
            have hib : ib (nI a) 6 = true := ib_nI (by omega) (by omega)
            have hcl : (nI a).toNatClampNeg = a := nI_clamp (by omega)
            simp only [hib, hcl, ↓reduceIte, b_some, (hP.2.2.2.1 a ha).1, show ¬ (2 : Int32) = 0 by decide, show ¬ (2 : Int32) = 1 by decide]
            by_cases c6 : a3 = -1
            · subst c6
              rw [if_pos rfl, if_neg (by decide)]
              exact ⟨_, _, _, rfl, rfl, Inv_later hI a (Or.inl rfl)⟩
            · have c7 : 0 ≤ a3.toInt := by
                have e : (-1 : Int32).toInt = -1 := rfl
                have : ¬ a3.toInt = (-1 : Int32).toInt := fun q => c6 (Int32.toInt_inj.mp q)
                omega
              rw [if_neg c6, if_pos (show (0 : Int32) ≤ a3 from Int32.le_iff_toInt_le.mpr c7)]
              exact ⟨_, _, _, rfl, rfl, Inv_later hI a (Or.inr ⟨c7, c3.2⟩)⟩
          · rw [if_neg c3, if_neg (show ¬ ((-1 : Int64).toInt ≤ a3.toInt ∧ a3.toInt ≤ (9 : Int64).toInt) from c3)]
            exact ⟨_, _, _, rfl, rfl, hI⟩
        · rw [if_neg c2, if_neg c2]
          exact ⟨_, _, _, rfl, rfl, hI⟩
      · rw [if_neg k2, if_neg ?_]
        · exact ⟨_, _, _, rfl, rfl, hI⟩
        · intro q
          have e0 : (0 : Int64).toInt = 0 := rfl
          have e2 : (2 : Int64).toInt = 2 := rfl
          have f0 : ¬ a1.toInt = (0 : Int32).toInt := fun q => k0 (Int32.toInt_inj.mp q)
          have f1 : ¬ a1.toInt = (1 : Int32).toInt := fun q => k1 (Int32.toInt_inj.mp q)
          have f2 : ¬ a1.toInt = (2 : Int32).toInt := fun q => k2 (Int32.toInt_inj.mp q)
          have g0 : (0 : Int32).toInt = 0 := rfl
          have g1 : (1 : Int32).toInt = 1 := rfl
          have g2 : (2 : Int32).toInt = 2 := rfl
          omega
