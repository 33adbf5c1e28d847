/-! ===== harsh ===== -/
def hv (o s b : Nat) : Int64 := 60 * (nI o).toInt64 - 60 * (nI s).toInt64 / (nI b).toInt64
theorem hv_c : ∀ o, o < 6 → ∀ s, s < 26 → ∀ b, b < 5 → ((nI o * 60) - ((nI (s + o) - nI o) * (60 / (nI (b + 2) - 1)))).toInt64 = hv o s (b + 1) := by decide +kernel
theorem hv_b : ∀ o, o < 6 → ∀ s, s < 26 → ∀ b, b < 5 → -1500 ≤ (hv o s (b + 1)).toInt ∧ (hv o s (b + 1)).toInt ≤ 1500 := by decide +kernel
def hA (σ : St) (j : Nat) : Nat → Int64
  | 0 => 0
  | p + 1 => if cN σ j p = 1 ∧ 1 < ct σ p then hA σ j p + hv (mv σ j p) (sm σ p 6 - mv σ j p) (ct σ p - 1) else hA σ j p
def hK (σ : St) (j : Nat) : Nat → Nat
  | 0 => 0
  | p + 1 => if cN σ j p = 1 ∧ 1 < ct σ p then hK σ j p + 1 else hK σ j p
theorem hK_le (σ : St) (j : Nat) : ∀ p, hK σ j p ≤ p := by
  intro p
  induction p with
  | zero => exact Nat.le_refl 0
  | succ p ih =>
    unfold hK
    by_cases c : cN σ j p = 1 ∧ 1 < ct σ p
    · rw [if_pos c]; omega
    · rw [if_neg c]; omega
def so (σ : St) (j p : Nat) : Nat → Nat
  | 0 => 0
  | k + 1 => so σ j p k + (if k = j then 0 else mv σ k p)
def sb' (σ : St) (j p : Nat) : Nat → Nat
  | 0 => 0
  | k + 1 => sb' σ j p k + (if k = j then 0 else cN σ k p)
theorem so_sm (σ : St) (j p : Nat) : ∀ k, so σ j p k + (if j < k then mv σ j p else 0) = sm σ p k ∧ sb' σ j p k + (if j < k then cN σ j p else 0) = cp σ p k := by
  intro k
  induction k with
  | zero => rw [if_neg (by omega), if_neg (by omega)]; exact ⟨rfl, rfl⟩
  | succ k ih =>
    simp only [so, sb', sm, cp]
    by_cases h : k = j
    · subst h
      rw [if_neg (Nat.lt_irrefl k), if_neg (Nat.lt_irrefl k)] at ih
      rw [if_pos rfl, if_pos rfl, if_pos (by omega), if_pos (by omega)]
      omega
    · rw [if_neg h, if_neg h]
      by_cases h2 : j < k
      · rw [if_pos h2, if_pos h2] at ih
        rw [if_pos (by omega), if_pos (by omega)]
        omega
      · rw [if_neg h2, if_neg h2] at ih
        rw [if_neg (by omega), if_neg (by omega)]
        omega
theorem so_le {σ : St} (hk : MkOk σ) {p : Nat} (hp : p < 6) {j : Nat} (hj : j < 6) : so σ j p 6 ≤ 25 ∧ sb' σ j p 6 ≤ 5 := by
  have h := so_sm σ j p 6
  have m0 := mv_le hk (show 0 < 6 by omega) hp
  have m1 := mv_le hk (show 1 < 6 by omega) hp
  have m2 := mv_le hk (show 2 < 6 by omega) hp
  have m3 := mv_le hk (show 3 < 6 by omega) hp
  have m4 := mv_le hk (show 4 < 6 by omega) hp
  have m5 := mv_le hk (show 5 < 6 by omega) hp
  have c0 := cN_le σ 0 p
  have c1 := cN_le σ 1 p
  have c2 := cN_le σ 2 p
  have c3 := cN_le σ 3 p
  have c4 := cN_le σ 4 p
  have c5 := cN_le σ 5 p
  rcases (show j = 0 ∨ j = 1 ∨ j = 2 ∨ j = 3 ∨ j = 4 ∨ j = 5 by omega) with rfl | rfl | rfl | rfl | rfl | rfl
  all_goals simp +decide only [so, sb', ↓reduceIte]
  all_goals omega
theorem hA_b {σ : St} (hk : MkOk σ) {j : Nat} (hj : j < 6) : ∀ p : Nat, p ≤ 6 → -(1500 * (p : Int)) ≤ (hA σ j p).toInt ∧ (hA σ j p).toInt ≤ 1500 * (p : Int) := by
  intro p
  induction p with
  | zero => intro _; exact ⟨Int.le_refl 0, Int.le_refl 0⟩
  | succ p ih =>
    intro hp
    have h1 := ih (by omega)
    unfold hA
    by_cases c : cN σ j p = 1 ∧ 1 < ct σ p
    · rw [if_pos c]
      have hs := so_sm σ j p 6
      rw [if_pos hj, if_pos hj, cp6] at hs
      have hl := so_le hk (show p < 6 by omega) hj
      have hb := hv_b (mv σ j p) (by have := mv_le hk hj (show p < 6 by omega); omega) (sm σ p 6 - mv σ j p) (by omega) (ct σ p - 2) (by omega)
      rw [show ct σ p - 2 + 1 = ct σ p - 1 by omega] at hb
      rw [Int64.toInt_add, Int.bmod_eq_of_le (by omega) (by omega)]
      omega
    · rw [if_neg c]; omega
theorem harshC_l {σ : St} (hk : MkOk σ) {P : Nat} (hP : σ.2.1 1 = nI P) (p6 : P ≤ 6) {j : Nat} (hj : j < 6) (part : Int32) : ∀ (n p : Nat), p ≤ P → P - p < n → fX8_harsh_l34 n σ (nI j) part (hA σ j p) (nI (hK σ j p)) (nI p) = fX8_tell σ (hA σ j P) (lN (hK σ j P * 60)) part := by
  intro n
  induction n with
  | zero => intro p h1 h2; omega
  | succ n ih =>
    intro p h1 h2
    show fX8_harsh_b34 (fX8_harsh_l34 n) σ (nI j) part (hA σ j p) (nI (hK σ j p)) (nI p) = _
    unfold fX8_harsh_b34 fX8_harsh_b76
    rw [hP]
    have hkl := hK_le σ j p
    by_cases hp : p = P
    · subst hp
      rw [if_pos (nI_le (Nat.le_refl p) (by omega))]
      have e : (nI (hK σ j p)).toInt64 * (60 : Int64) = lN (hK σ j p * 60) := by
        refine Int64.toInt_inj.mp ?_
        have e1 : (nI (hK σ j p)).toInt64.toInt = (hK σ j p : Int) := by rw [i2l_toInt, nI_toInt (by omega)]
        have e2 : (60 : Int64).toInt = 60 := rfl
        rw [Int64.toInt_mul, e1, e2, lT (by omega), Int.bmod_eq_of_le (by omega) (by omega)]
        omega
      rw [e]
      cases fX8_tell σ (hA σ j p) (lN (hK σ j p * 60)) part with
      | none => rfl
      | some q => rfl
    · have hlt : p < P := by omega
      have hp6 : p < 6 := by omega
      rw [if_neg (nI_ge hlt (by omega)), show nI p + (1 : Int32) = nI (p + 1) from nI_1 p, ← ih (p + 1) (by omega) (by omega)]
      have hs := so_sm σ j p 6
      rw [if_pos hj, if_pos hj, cp6] at hs
      have hl := so_le hk hp6 hj
      have hc := cN_le σ j p
      unfold fX1_comparable
      simp only [hasM_spec σ hj hp6, countOf_spec σ hp6, b_some]
      by_cases c1 : cN σ j p = 0
      · rw [if_pos (show nI (cN σ j p) = 0 by rw [c1]; rfl), b_some]
        dsimp only
        rw [if_pos rfl]
        simp only [hA, hK]
        rw [if_neg (show ¬ (cN σ j p = 1 ∧ 1 < ct σ p) by omega), if_neg (show ¬ (cN σ j p = 1 ∧ 1 < ct σ p) by omega)]
      · have c1' : cN σ j p = 1 := by omega
        rw [if_neg (show ¬ nI (cN σ j p) = 0 from fun q => c1 ((nI_z (by omega)).mp q))]
        by_cases c2 : ct σ p ≤ 1
        · rw [if_pos (show nI (ct σ p) ≤ 1 from nI_le (b := 1) c2 (by omega)), b_some]
          dsimp only
          rw [if_pos rfl]
          simp only [hA, hK]
          rw [if_neg (show ¬ (cN σ j p = 1 ∧ 1 < ct σ p) by omega), if_neg (show ¬ (cN σ j p = 1 ∧ 1 < ct σ p) by omega)]
        · rw [if_neg (show ¬ nI (ct σ p) ≤ 1 from nI_ge (b := ct σ p) (a := 1) (by omega) (by omega)), b_some]
          dsimp only
          rw [if_neg (show ¬ (1 : Int32) = 0 by decide)]
          unfold fX1_aboveOthers
          have hmv : σ.1 19 (6 * j + p) = nI (mv σ j p) := by
            rcases mv_val hk hj hp6 with ⟨q, -⟩ | ⟨-, -, q⟩
            · omega
            · exact q
          simp only [countOf_spec σ hp6, of_spec σ hj hp6, sumOf_spec hk hp6, b_some, hmv]
          have hvc := hv_c (mv σ j p) (by have := mv_le hk hj hp6; omega) (sm σ p 6 - mv σ j p) (by omega) (ct σ p - 2) (by omega)
          rw [show ct σ p - 2 + 1 = ct σ p - 1 by omega, show ct σ p - 2 + 2 = ct σ p by omega, show sm σ p 6 - mv σ j p + mv σ j p = sm σ p 6 by omega] at hvc
          have e1 : nI (ct σ p) - 1 = nI (ct σ p - 1) := pk_sub (b := 1) (by omega)
          rw [if_pos (show 0 < nI (ct σ p) - 1 by rw [e1]; exact nI_lt (a := 0) (by omega) (by omega)), if_pos (show ¬ nI (ct σ p) - 1 = 0 by rw [e1]; intro q; have := (nI_z (by omega)).mp q; omega), b_some]
          dsimp only
          rw [hvc, show nI (hK σ j p) + (1 : Int32) = nI (hK σ j p + 1) from nI_1 _]
          simp only [hA, hK]
          rw [if_pos (show (cN σ j p = 1 ∧ 1 < ct σ p) by omega), if_pos (show (cN σ j p = 1 ∧ 1 < ct σ p) by omega)]
theorem harshM_l49 {σ μ : St} {J P : Nat} (hM : IvM σ μ J P) (hJ : μ.2.1 0 = nI J) (h6 : J ≤ 6) (rc : St → Int32 → Int32 → Int64 → Int64 → Int32 → Option (Int64 × St)) {j p : Nat} (hj : j < J) (hp : p < 6) (part : Int32) (A B : Int64) : ∀ (n k : Nat), k ≤ J → J - k < n → fX9_harsh_l49 rc n μ (nI j) part A B (nI p) (nI (so σ j p k)) (nI (sb' σ j p k)) (nI k) = fX9_harsh_b49 rc (fX9_harsh_l49 rc 0) μ (nI j) part A B (nI p) (nI (so σ j p J)) (nI (sb' σ j p J)) (nI J) := by
  intro n
  induction n with
  | zero => intro k h1 h2; omega
  | succ n ih =>
    intro k h1 h2
    show fX9_harsh_b49 rc (fX9_harsh_l49 rc n) μ (nI j) part A B (nI p) (nI (so σ j p k)) (nI (sb' σ j p k)) (nI k) = _
    by_cases hk : k = J
    · subst hk
      unfold fX9_harsh_b49
      rw [hJ, if_pos (nI_le (Nat.le_refl k) (by omega)), if_pos (nI_le (Nat.le_refl k) (by omega))]
    · have hlt : k < J := by omega
      rw [← ih (k + 1) (by omega) (by omega)]
      unfold fX9_harsh_b49 fX9_harsh_b90 fX9_harsh_b91 fX9_harsh_b111 fX9_harsh_b112
      rw [hJ, if_neg (nI_ge hlt (by omega))]
      unfold fX9_at
      rw [b_some]
      dsimp only
      rw [at6', if_pos (ib_nI (show 6 * k + p < 36 by omega) (by omega)), nI_clamp (n := 6 * k + p) (by omega), (mk_facts hM hlt h6 hp).1, show nI k + (1 : Int32) = nI (k + 1) from nI_1 k]
      have hn := neg_cN (mk_or hM hlt h6 hp)
      simp only [so, sb']
      have z : ∀ x : Int32, x + 0 = x := fun x => by simp
      by_cases c : k = j
      · subst c
        rw [if_pos rfl, if_pos rfl, if_pos rfl, if_pos rfl, z, z]
        rfl
      · have c' : ¬ nI k = nI j := fun q => c (nI_inj (by omega) (by omega) q)
        rw [if_neg c', if_neg c', if_neg c, if_neg c]
        rcases mv_val (mkok hM h6) (show k < 6 by omega) hp with ⟨q1, q2⟩ | ⟨q1, q2, q3⟩
        · rw [if_pos (hn.mpr q1), if_pos (hn.mpr q1), q1, q2, z, z]
          rfl
        · have hp0 : ¬ σ.1 19 (6 * k + p) < 0 := fun q => by have := hn.mp q; omega
          rw [if_neg hp0, if_neg c', if_neg hp0, q3, q1, nI_add, show nI (sb' σ j p k) + (1 : Int32) = nI (sb' σ j p k + 1) from nI_1 _]
theorem harshM_l31 {σ μ : St} {J P : Nat} (hM : IvM σ μ J P) (hJ : μ.2.1 0 = nI J) (hP : μ.2.1 1 = nI P) (h6 : J ≤ 6) (p6 : P ≤ 6) {j : Nat} (hj : j < J) (part : Int32) : ∀ (n p : Nat), p ≤ P → P - p < n → fX9_harsh_l31 n μ (nI j) part (hA σ j p) (lN (hK σ j p)) (nI p) = if hK σ j P = 0 then some (part.toInt64, μ) else fX9_lowest μ (hA σ j P) (lN (hK σ j P * 60)) part := by
  intro n
  induction n with
  | zero => intro p h1 h2; omega
  | succ n ih =>
    intro p h1 h2
    show fX9_harsh_b31 (fX9_harsh_l31 n) μ (nI j) part (hA σ j p) (lN (hK σ j p)) (nI p) = _
    unfold fX9_harsh_b31
    rw [hP]
    have hkl := hK_le σ j p
    have hk := mkok hM h6
    by_cases hp : p = P
    · subst hp
      rw [if_pos (nI_le (Nat.le_refl p) (by omega))]
      by_cases c : hK σ j p = 0
      · rw [if_pos ((lg_cmp_eq _ _).mpr ((lN_z (by omega)).mpr c)), if_pos c]
      · rw [if_neg (fun q => c ((lN_z (by omega)).mp ((lg_cmp_eq _ _).mp q))), if_neg c]
        rw [show (60 : Int64) * lN (hK σ j p) = lN (hK σ j p * 60) from (lN_mul 60 _).trans (by rw [Nat.mul_comm])]
        cases fX9_lowest μ (hA σ j p) (lN (hK σ j p * 60)) part with
        | none => rfl
        | some q => rfl
    · have hlt : p < P := by omega
      have hp6 : p < 6 := by omega
      rw [if_neg (nI_ge hlt (by omega))]
      have h := harshM_l49 hM hJ h6 (fX9_harsh_l31 n) hj hp6 part (hA σ j p) (lN (hK σ j p)) gF 0 (by omega) (by simp [gF]; omega)
      refine Eq.trans h ?_
      rw [← ih (p + 1) (by omega) (by omega)]
      unfold fX9_harsh_b49 fX9_harsh_b172 fX9_at
      rw [hJ, if_pos (nI_le (Nat.le_refl J) (by omega)), b_some]
      dsimp only
      rw [at6', if_pos (ib_nI (show 6 * j + p < 36 by omega) (by omega)), nI_clamp (n := 6 * j + p) (by omega), (mk_facts hM hj h6 hp6).1, show nI p + (1 : Int32) = nI (p + 1) from nI_1 p]
      have hn := neg_cN (mk_or hM hj h6 hp6)
      have hs := so_sm σ j p J
      have hpo := pre_out hM h6 hp6
      rw [if_pos hj, if_pos hj, hpo.1, hpo.2, cp6] at hs
      have hc := cN_le σ j p
      simp only [hA, hK]
      by_cases c1 : cN σ j p = 0
      · rw [if_pos (hn.mpr c1), if_neg (show ¬ (cN σ j p = 1 ∧ 1 < ct σ p) by omega), if_neg (show ¬ (cN σ j p = 1 ∧ 1 < ct σ p) by omega)]
      · rw [if_neg (fun q => c1 (hn.mp q))]
        have hsc := cp_le σ p 6
        rw [cp6] at hsc
        by_cases c2 : ct σ p ≤ 1
        · rw [if_pos (show nI (sb' σ j p J) ≤ 0 from nI_le (b := 0) (by omega) (by omega)), if_neg (show ¬ (cN σ j p = 1 ∧ 1 < ct σ p) by omega), if_neg (show ¬ (cN σ j p = 1 ∧ 1 < ct σ p) by omega)]
        · have hmv : σ.1 19 (6 * j + p) = nI (mv σ j p) := by
            rcases mv_val hk (show j < 6 by omega) hp6 with ⟨q, -⟩ | ⟨-, -, q⟩
            · omega
            · exact q
          have e1 : sb' σ j p J = ct σ p - 1 := by omega
          have e2 : so σ j p J = sm σ p 6 - mv σ j p := by omega
          rw [if_neg (show ¬ nI (sb' σ j p J) ≤ 0 from nI_ge (a := 0) (by omega) (by omega)), if_pos (show ¬ (nI (sb' σ j p J)).toInt64 = 0 from fun q => by
            have h1 : (nI (sb' σ j p J)).toInt64.toInt = (sb' σ j p J : Int) := by rw [i2l_toInt, nI_toInt (by omega)]
            rw [q] at h1
            have z : (0 : Int64).toInt = 0 := rfl
            omega), if_pos (show (cN σ j p = 1 ∧ 1 < ct σ p) by omega), if_pos (show (cN σ j p = 1 ∧ 1 < ct σ p) by omega), hmv, e1, e2]
          rw [show lN (hK σ j p) + (1 : Int64) = lN (hK σ j p + 1) from lN_add _ 1]
          rfl
theorem part_spec (σ : St) (x : Int32) : fX8_isPart σ x = some (bI (0 ≤ x.toInt ∧ x.toInt < 2), σ) := by
  unfold fX8_isPart
  rw [within_spec]
  show (if _ ∨ _ then _ else _) = _
  rw [bI_guard]
  congr 2
  refine bI_iff ?_
  have z : (0 : Int32).toInt = 0 := rfl
  have o : (1 : Int32).toInt = 1 := rfl
  omega
theorem partM_spec (σ : St) (x : Int32) : fX9_isPart σ x = some (bI (0 ≤ x.toInt ∧ x.toInt < 2), σ) := by
  unfold fX9_isPart
  rw [in_spec, i2l_toInt]
  show (if _ ∨ _ then _ else _) = _
  rw [bI_guard]
  congr 2
  refine bI_iff ?_
  have z : (0 : Int64).toInt = 0 := rfl
  have o : (1 : Int64).toInt = 1 := rfl
  omega
theorem op_harsh : Op_harsh Inv := by
  intro σ μ hI a1 a2
  obtain ⟨J, P, S, C, hN, hJ, hP, hM, hR⟩ := id hI
  obtain ⟨n1, n2, n3, n4, n5, n6, n7, n8, n9, n10, n11, n12⟩ := id hN
  unfold fX8_harsh fX9_harsh
  rw [has_spec n5 n1, isJ_spec n6 n1, b_some, b_some]
  dsimp only
  rw [bI_ne0, bI_ne0, part_spec, partM_spec, b_some, b_some]
  dsimp only
  rw [bI_ne0, bI_ne0]
  by_cases c : 0 ≤ a1.toInt ∧ a1.toInt < J
  · rw [if_pos c, if_pos c]
    by_cases d : 0 ≤ a2.toInt ∧ a2.toInt < 2
    · rw [if_pos d, if_pos d]
      obtain ⟨j, hj, rfl⟩ := nI_ex (N := J) c (by omega)
      have hk := mkok hM n1
      have h1 := harshC_l hk n7 n2 (show j < 6 by omega) a2 gF 0 (by omega) (by simp [gF]; omega)
      have h2 := harshM_l31 hM n6 n8 n1 n2 hj a2 gF 0 (by omega) (by simp [gF]; omega)
      have hb := hA_b hk (show j < 6 by omega) P n2
      have hkl := hK_le σ j P
      by_cases c0 : hK σ j P = 0
      · rw [c0] at h1
        rw [if_pos c0] at h2
        refine ⟨a2.toInt64, σ, μ, (h1.trans (tell_zero σ (u := (hA σ j P).toInt) rfl (by omega) a2)).trans ?_, h2, hI⟩
        rcases (show a2.toInt = 0 ∨ a2.toInt = 1 by omega) with q | q
        · have e : a2 = 0 := Int32.toInt_inj.mp q
          rw [e]; rfl
        · have e : a2 = 1 := Int32.toInt_inj.mp q
          rw [e]; rfl
      · rw [if_neg c0] at h2
        exact ⟨_, σ, μ, h1.trans (tell_spec σ (u := (hA σ j P).toInt) rfl (by omega) (by omega) (by omega) a2), h2.trans (low_spec μ (u := (hA σ j P).toInt) rfl (by omega) (by omega) (by omega) a2), hI⟩
    · rw [if_neg d, if_neg d]
      exact ⟨_, _, _, rfl, rfl, hI⟩
  · rw [if_neg c, if_neg c]
    exact ⟨_, _, _, rfl, rfl, hI⟩
