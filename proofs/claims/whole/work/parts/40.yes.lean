/-! ===== yes ===== -/
def tc (σ : St) (p : Nat) : Nat → Nat → Nat
  | 0 => fun _ => 0
  | k + 1 => if cN σ k p = 0 then tc σ p k else inc (tc σ p k) (mv σ k p)
theorem tc_pre {σ : St} (hk : MkOk σ) {p : Nat} (hp : p < 6) : ∀ k, k ≤ 6 → pre (tc σ p k) 6 = cp σ p k := by
  intro k
  induction k with
  | zero => intro _; rfl
  | succ k ih =>
    intro h
    have hc := cN_le σ k p
    simp only [tc, cp]
    by_cases c : cN σ k p = 0
    · rw [if_pos c, ih (by omega), c, Nat.add_zero]
    · rw [if_neg c, (inc_pre _ (show mv σ k p < 6 by have := mv_le hk (show k < 6 by omega) hp; omega)).1, ih (by omega)]
      omega
theorem tc_out {σ μ : St} {J P : Nat} (hM : IvM σ μ J P) (h6 : J ≤ 6) {p : Nat} (hp : p < 6) : tc σ p J = tc σ p 6 := by
  have : ∀ k, J ≤ k → k ≤ 6 → tc σ p J = tc σ p k := by
    intro k
    induction k with
    | zero => intro h1 h2; rw [show J = 0 by omega]
    | succ k ih =>
      intro h1 h2
      by_cases hk : J = k + 1
      · rw [hk]
      · have z : cN σ k p = 0 := cN_out hM (show k < 6 by omega) hp (Or.inl (by omega)) h6
        simp only [tc, if_pos z]
        exact ih (by omega) (by omega)
  exact this 6 h6 (Nat.le_refl 6)
theorem tally_l {σ : St} (hk : MkOk σ) {p : Nat} (hp : p < 6) : ∀ (n k : Nat) (σ' : St), k ≤ 6 → 6 - k < n → sameC σ σ' → TO_8 σ' (tc σ p k) → ∃ σ'', fX1_tallyOf_l9 n σ' (nI p) (nI k) = some ((), σ'') ∧ TO_8 σ'' (tc σ p 6) ∧ sameC σ σ'' := by
  intro n
  induction n with
  | zero => intro k σ' h1 h2; omega
  | succ n ih =>
    intro k σ' h1 h2 hs hT
    show ∃ σ'', fX1_tallyOf_b9 (fX1_tallyOf_l9 n) σ' (nI p) (nI k) = some ((), σ'') ∧ _
    unfold fX1_tallyOf_b9 fX1_tallyOf_b38
    by_cases h : k = 6
    · subst h
      rw [if_pos (show (6 : Int32) ≤ nI 6 by decide)]
      exact ⟨σ', rfl, hT, hs⟩
    · have hlt : k < 6 := by omega
      have hcc : cN σ' k p = cN σ k p := by unfold cN; rw [hs.1 19 (by omega)]
      rw [if_neg (show ¬ (6 : Int32) ≤ nI k from nI_ge (b := 6) hlt (by omega)), hasM_spec σ' hlt hp, b_some, of_spec σ' hlt hp, b_some, show nI k + (1 : Int32) = nI (k + 1) from nI_1 k, hcc, hs.1 19 (by omega)]
      dsimp only
      rcases mv_val hk hlt hp with ⟨q1, q2⟩ | ⟨q1, q2, q3⟩
      · rw [q1, if_pos (show nI 0 = (0 : Int32) from rfl)]
        refine ih (k + 1) σ' (by omega) (by omega) hs ?_
        simp only [tc, if_pos q1]
        exact hT
      · rw [q1, if_neg (show ¬ nI 1 = (0 : Int32) by decide), q3]
        obtain ⟨σ2, e1, e2, e3, -⟩ := put_spec_8 hs hT (show mv σ k p < 6 by omega)
        rw [e1, b_some]
        refine ih (k + 1) σ2 (by omega) (by omega) e3 ?_
        simp only [tc]
        rw [if_neg (by omega)]
        exact e2
theorem yesM_l {σ μ : St} {J P S C : Nat} (hN : IvN σ μ J P S C) (hM : IvM σ μ J P) (hR : IvR σ μ S C) {p : Nat} (hp : p < 6) : ∀ (n k : Nat) (μ' : St), k ≤ J → J - k < n → sameM μ μ' → TA (μ'.1 15) (tc σ p k) → ∃ μ'', fX9_yes_l26 n μ' (nI p) (nI k) = some (nI (qn σ C (tc σ p J)), μ'') ∧ sameM μ μ'' := by
  obtain ⟨n1, n2, n3, n4, n5, n6, n7, n8, n9, n10, n11, n12⟩ := id hN
  intro n
  induction n with
  | zero => intro k μ' h1 h2; omega
  | succ n ih =>
    intro k μ' h1 h2 hs hT
    show ∃ μ'', fX9_yes_b26 (fX9_yes_l26 n) μ' (nI p) (nI k) = _ ∧ _
    unfold fX9_yes_b26 fX9_yes_b59 fX9_at
    rw [hs.2 0 (by omega), n6]
    have hk := mkok hM n1
    by_cases h : k = J
    · subst h
      have hpre := tc_pre hk hp k n1
      have hcl := cp_le σ p k
      rw [if_pos (nI_le (Nat.le_refl k) (by omega)), yesOf_spec hs n12 hR n4 hT (by omega), b_some]
      exact ⟨μ', rfl, hs⟩
    · have hlt : k < J := by omega
      rw [if_neg (nI_ge hlt (by omega)), b_some]
      dsimp only
      rw [at6', if_pos (ib_nI (show 6 * k + p < 36 by omega) (by omega)), nI_clamp (n := 6 * k + p) (by omega), hs.1 9 (by omega), (mk_facts hM hlt n1 hp).1, show nI k + (1 : Int32) = nI (k + 1) from nI_1 k]
      have hn := neg_cN (mk_or hM hlt n1 hp)
      rcases mv_val hk (show k < 6 by omega) hp with ⟨q1, q2⟩ | ⟨q1, q2, q3⟩
      · rw [if_pos (hn.mpr q1)]
        refine ih (k + 1) μ' (by omega) (by omega) hs ?_
        simp only [tc, if_pos q1]
        exact hT
      · rw [if_neg (fun q => by have := hn.mp q; omega), q3, if_pos (ib_nI (show mv σ k p < 6 by omega) (by omega)), if_pos (ib_nI (show mv σ k p < 6 by omega) (by omega)), nI_clamp (n := mv σ k p) (by omega)]
        refine ih (k + 1) _ (by omega) (by omega) (sM_uA hs (by omega) _ _) ?_
        simp only [tc]
        rw [if_neg (by omega)]
        exact TA_inc hT
theorem op_yes : Op_yes Inv := by
  intro σ μ hI a1
  obtain ⟨J, P, S, C, hN, hJ, hP, hM, hR⟩ := id hI
  obtain ⟨n1, n2, n3, n4, n5, n6, n7, n8, n9, n10, n11, n12⟩ := id hN
  unfold fX8_yes fX9_yes
  simp only [hasP_spec n7 n2, isP_spec n8 n2, b_some, bI_ne0]
  rw [n11, n12]
  by_cases c : 0 ≤ a1.toInt ∧ a1.toInt < P
  · rw [if_pos c, if_pos c]
    by_cases d : nI C = 0
    · rw [if_pos d, if_pos d]
      exact ⟨_, _, _, rfl, rfl, hI⟩
    · rw [if_neg d, if_neg d]
      obtain ⟨p, hp, rfl⟩ := nI_ex (N := P) c (by omega)
      have hk := mkok hM n1
      obtain ⟨σ1, a1, a2, a3⟩ := clear_spec_8 (sameC.rf σ)
      obtain ⟨σ2, b1, b2, b3⟩ := tally_l hk (show p < 6 by omega) gF 0 σ1 (by omega) (by simp [gF]) a3 a2
      have e1 : fX1_tallyOf σ (nI p) = some ((), σ2) := by
        unfold fX1_tallyOf
        rw [a1, b_some]
        exact b1
      have hpre := tc_pre hk (show p < 6 by omega) 6 (Nat.le_refl 6)
      have hcl := cp_le σ p 6
      obtain ⟨μ1, c1, c2, c3⟩ := given_spec (sameM.rf μ)
      obtain ⟨μ2, d1, d2⟩ := yesM_l hN hM hR (show p < 6 by omega) gF 0 μ1 (by omega) (by simp [gF]; omega) c3 c2
      refine ⟨nI (qn σ C (tc σ p 6)), σ2, μ2, ?_, ?_, hI.same b3 d2⟩
      · rw [e1, b_some, qn_spec_8 b3 n11 hR n4 b2 (by omega), b_some]
      · rw [c1, b_some, ← tc_out hM n1 (show p < 6 by omega)]
        exact d1
  · rw [if_neg c, if_neg c]
    exact ⟨_, _, _, rfl, rfl, hI⟩
