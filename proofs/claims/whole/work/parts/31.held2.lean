/-! ===== held in the reference ===== -/
theorem moreM_l {σ μ : St} {J P : Nat} (hM : IvM σ μ J P) (hJ : μ.2.1 0 = nI J) (h6 : J ≤ 6) {a b : Nat} (ha : a < 6) (hb : b < 6) : ∀ (n j : Nat), j ≤ J → J - j < n → fX9_moreMarks_l14 n μ (nI a) (nI b) (nI (sm σ a j)) (nI (cp σ a j)) (nI (sm σ b j)) (nI (cp σ b j)) (nI j) = fX9_moreMarks_b14 (fX9_moreMarks_l14 0) μ (nI a) (nI b) (nI (sm σ a J)) (nI (cp σ a J)) (nI (sm σ b J)) (nI (cp σ b J)) (nI J) := by
  have hk := mkok hM h6
  intro n
  induction n with
  | zero => intro j h1 h2; omega
  | succ n ih =>
    intro j h1 h2
    show fX9_moreMarks_b14 (fX9_moreMarks_l14 n) μ (nI a) (nI b) (nI (sm σ a j)) (nI (cp σ a j)) (nI (sm σ b j)) (nI (cp σ b j)) (nI j) = _
    by_cases hj : j = J
    · subst hj
      unfold fX9_moreMarks_b14
      rw [hJ, if_pos (nI_le (Nat.le_refl j) (by omega)), if_pos (nI_le (Nat.le_refl j) (by omega))]
    · have hlt : j < J := by omega
      rw [← ih (j + 1) (by omega) (by omega)]
      unfold fX9_moreMarks_b14 fX9_at
      rw [hJ, if_neg (nI_ge hlt (by omega))]
      simp only [b_some, at6']
      rw [if_pos (ib_nI (show 6 * j + a < 36 by omega) (by omega)), if_pos (ib_nI (show 6 * j + b < 36 by omega) (by omega)), nI_clamp (n := 6 * j + a) (by omega), nI_clamp (n := 6 * j + b) (by omega), (mk_facts hM hlt h6 ha).1, (mk_facts hM hlt h6 hb).1]
      unfold fX9_moreMarks_b61 fX9_moreMarks_b75 fX9_moreMarks_b91 fX9_moreMarks_b106
      have g1 := ge_cN (mk_or hM hlt h6 ha)
      have g2 := ge_cN (mk_or hM hlt h6 hb)
      have a0 : ∀ x : Nat, nI x + (0 : Int32) = nI x := fun x => by simp
      have a1 : ∀ x : Nat, nI x + (1 : Int32) = nI (x + 1) := nI_1
      rcases mv_val hk (show j < 6 by omega) ha with ⟨q1, q2⟩ | ⟨q1, q2, q3⟩ <;> rcases mv_val hk (show j < 6 by omega) hb with ⟨r1, r2⟩ | ⟨r1, r2, r3⟩
      · simp only [sm, cp, q1, q2, r1, r2, Nat.add_zero, if_neg (show ¬ (0 : Int32) ≤ σ.1 19 (6 * j + a) from fun h => by have := g1.mp h; omega), if_neg (show ¬ (0 : Int32) ≤ σ.1 19 (6 * j + b) from fun h => by have := g2.mp h; omega), a0, a1]
      · simp only [sm, cp, q1, q2, r1, Nat.add_zero, if_neg (show ¬ (0 : Int32) ≤ σ.1 19 (6 * j + a) from fun h => by have := g1.mp h; omega), if_pos (g2.mpr r1), a0, a1]
        rw [r3, nI_add]
      · simp only [sm, cp, q1, r1, r2, Nat.add_zero, if_pos (g1.mpr q1), if_neg (show ¬ (0 : Int32) ≤ σ.1 19 (6 * j + b) from fun h => by have := g2.mp h; omega), a0, a1]
        rw [q3, nI_add]
      · simp only [sm, cp, q1, r1, if_pos (g1.mpr q1), if_pos (g2.mpr r1), a0, a1]
        rw [q3, r3, nI_add, nI_add]
theorem moreM_spec {σ μ : St} {J P : Nat} (hM : IvM σ μ J P) (hJ : μ.2.1 0 = nI J) (h6 : J ≤ 6) {a b : Nat} (ha : a < 6) (hb : b < 6) : fX9_moreMarks μ (nI a) (nI b) = some (if ct σ a = 0 ∨ ct σ b = 0 then 0 else nI (sm σ a 6 * ct σ b) - nI (sm σ b 6 * ct σ a), μ) := by
  have h : fX9_moreMarks μ (nI a) (nI b) = _ := moreM_l hM hJ h6 ha hb gF 0 (by omega) (by simp [gF]; omega)
  rw [h]
  unfold fX9_moreMarks_b14 fX9_moreMarks_b125
  obtain ⟨e1, e2⟩ := pre_out hM h6 ha
  obtain ⟨e3, e4⟩ := pre_out hM h6 hb
  rw [hJ, if_pos (nI_le (Nat.le_refl J) (by omega)), e1, e2, e3, e4, cp6, cp6, pk_mul, pk_mul]
  have c1 := cp_le σ a 6
  have c2 := cp_le σ b 6
  rw [cp6] at c1 c2
  by_cases d3 : ct σ a = 0
  · rw [if_pos ((nI_z (n := ct σ a) (by omega)).mpr d3), if_pos (Or.inl d3)]
  · rw [if_neg (fun h => d3 ((nI_z (n := ct σ a) (by omega)).mp h))]
    by_cases d4 : ct σ b = 0
    · rw [if_pos ((nI_z (n := ct σ b) (by omega)).mpr d4), if_pos (Or.inr d4)]
    · rw [if_neg (fun h => d4 ((nI_z (n := ct σ b) (by omega)).mp h)), if_neg (by omega)]
def sg3 (x : Int32) : Nat := if x < 0 then 0 else if x = 0 then 1 else 2
theorem held_pair (rc17 : St → Int32 → Int32 → Int32 → Option (Int32 × St)) (rc28 : St → Int32 → Int32 → Int32 → Int32 → Option (Int32 × St)) (μ : St) {w : Nat} (hw : w < 2) (x2 x3 x4 t k : Int32) (hk : fX9_moreMarks μ x3 x4 = some (k, μ)) : fX9_held_b71 rc17 rc28 μ (nI w) x2 x3 x4 t = rc28 μ (nI w) (x2 + (if (if w = 0 then ((0 < t.toInt ∧ 0 < k.toInt) ∨ (t.toInt < 0 ∧ k.toInt < 0)) else ((0 < t.toInt ∧ k.toInt < 0) ∨ (t.toInt < 0 ∧ 0 < k.toInt))) then 1 else 0)) x3 (x4 + 1) := by
  unfold fX9_held_b71
  rw [hk, b_some]
  unfold fX9_held_b92 fX9_held_b102 fX9_held_b106 fX9_held_b107 fX9_held_b119 fX9_held_b129 fX9_held_b133 fX9_held_b134 fX9_held_b154 fX9_held_b158 fX9_held_b159
  dsimp only
  have z : (0 : Int32).toInt = 0 := rfl
  simp only [Int32.le_iff_toInt_le, Int32.lt_iff_toInt_lt, z]
  have w0 : nI 0 = (0 : Int32) := rfl
  have w1 : ¬ nI 1 = (0 : Int32) := by decide
  have o1 : ¬ (1 : Int32) = 0 := by decide
  generalize t.toInt = T
  generalize k.toInt = K
  have cT : (T < 0 ∧ ¬ 0 < T ∧ ¬ 0 ≤ T ∧ T ≤ 0) ∨ (¬ T < 0 ∧ ¬ 0 < T ∧ 0 ≤ T ∧ T ≤ 0) ∨ (¬ T < 0 ∧ 0 < T ∧ 0 ≤ T ∧ ¬ T ≤ 0) := by omega
  have cK : (K < 0 ∧ ¬ 0 < K ∧ ¬ 0 ≤ K ∧ K ≤ 0) ∨ (¬ K < 0 ∧ ¬ 0 < K ∧ 0 ≤ K ∧ K ≤ 0) ∨ (¬ K < 0 ∧ 0 < K ∧ 0 ≤ K ∧ ¬ K ≤ 0) := by omega
  rcases (show w = 0 ∨ w = 1 by omega) with rfl | rfl <;> rcases cT with ⟨p1, p2, p3, p4⟩ | ⟨p1, p2, p3, p4⟩ | ⟨p1, p2, p3, p4⟩ <;> rcases cK with ⟨q1, q2, q3, q4⟩ | ⟨q1, q2, q3, q4⟩ | ⟨q1, q2, q3, q4⟩ <;> simp [w0, w1, p1, p2, p3, p4, q1, q2, q3, q4]
/-- the reference's number of one pair -/
theorem pair_g {σ μ : St} {J P : Nat} (hM : IvM σ μ J P) (h6 : J ≤ 6) (hL : ∀ i, i < P → σ.1 17 i = μ.1 8 i ∧ (μ.1 8 i = -6 ∨ inR (μ.1 8 i) 0 9)) (p6 : P ≤ 6) {a b : Nat} (ha : a < P) (hb : b < P) {w : Nat} (hw : w < 2) :
    (if (if w = 0 then ((0 < (if μ.1 8 a < 0 ∨ μ.1 8 b < 0 then (0 : Int32) else μ.1 8 a - μ.1 8 b).toInt ∧ 0 < (if ct σ a = 0 ∨ ct σ b = 0 then (0 : Int32) else nI (sm σ a 6 * ct σ b) - nI (sm σ b 6 * ct σ a)).toInt) ∨ ((if μ.1 8 a < 0 ∨ μ.1 8 b < 0 then (0 : Int32) else μ.1 8 a - μ.1 8 b).toInt < 0 ∧ (if ct σ a = 0 ∨ ct σ b = 0 then (0 : Int32) else nI (sm σ a 6 * ct σ b) - nI (sm σ b 6 * ct σ a)).toInt < 0)) else ((0 < (if μ.1 8 a < 0 ∨ μ.1 8 b < 0 then (0 : Int32) else μ.1 8 a - μ.1 8 b).toInt ∧ (if ct σ a = 0 ∨ ct σ b = 0 then (0 : Int32) else nI (sm σ a 6 * ct σ b) - nI (sm σ b 6 * ct σ a)).toInt < 0) ∨ ((if μ.1 8 a < 0 ∨ μ.1 8 b < 0 then (0 : Int32) else μ.1 8 a - μ.1 8 b).toInt < 0 ∧ 0 < (if ct σ a = 0 ∨ ct σ b = 0 then (0 : Int32) else nI (sm σ a 6 * ct σ b) - nI (sm σ b 6 * ct σ a)).toInt))) then (1 : Int32) else 0) = nI (gP w σ a b) := by
  have hk := mkok hM h6
  obtain ⟨la, qa⟩ := hL a ha
  obtain ⟨lb, qb⟩ := hL b hb
  unfold gP
  rw [la, lb]
  have z : (0 : Int32).toInt = 0 := rfl
  have c1 := cp_le σ a 6
  have c2 := cp_le σ b 6
  rw [cp6] at c1 c2
  have s1 := sm_le hk (show a < 6 by omega) 6 (by omega)
  have s2 := sm_le hk (show b < 6 by omega) 6 (by omega)
  have m1 : sm σ a 6 * ct σ b ≤ 30 * 6 := Nat.mul_le_mul s1 c2
  have m2 : sm σ b 6 * ct σ a ≤ 30 * 6 := Nat.mul_le_mul s2 c1
  have kk : (nI (sm σ a 6 * ct σ b) - nI (sm σ b 6 * ct σ a)).toInt = ((sm σ a 6 * ct σ b : Nat) : Int) - ((sm σ b 6 * ct σ a : Nat) : Int) := pk_sub_toInt (by omega) (by omega)
  generalize sm σ a 6 * ct σ b = u at *
  generalize sm σ b 6 * ct σ a = v at *
  have n6 : (-6 : Int32) < 0 := by decide
  by_cases e : (¬ μ.1 8 a = -6 ∧ ¬ μ.1 8 b = -6 ∧ ¬ ct σ a = 0 ∧ ¬ ct σ b = 0)
  · obtain ⟨e1, e2, e3, e4⟩ := e
    have ra : inR (μ.1 8 a) 0 9 := by rcases qa with q | q; exact absurd q e1; exact q
    have rb : inR (μ.1 8 b) 0 9 := by rcases qb with q | q; exact absurd q e2; exact q
    obtain ⟨va, ha1, ha2⟩ := nI_rng (n := 9) ra (by omega)
    obtain ⟨vb, hb1, hb2⟩ := nI_rng (n := 9) rb (by omega)
    have la0 : ¬ (μ.1 8 a < 0 ∨ μ.1 8 b < 0) := by
      rw [ha2, hb2]
      rintro (q | q)
      · exact nI_pos (by omega) q
      · exact nI_pos (by omega) q
    have ll : (μ.1 8 a - μ.1 8 b).toInt = (va : Int) - vb := by rw [ha2, hb2]; exact pk_sub_toInt (by omega) (by omega)
    have ta : (μ.1 8 a).toInt = va := by rw [ha2]; exact nI_toInt (by omega)
    have tb : (μ.1 8 b).toInt = vb := by rw [hb2]; exact nI_toInt (by omega)
    rw [if_neg la0, if_neg (show ¬ (ct σ a = 0 ∨ ct σ b = 0) by omega), ll, kk, ta, tb]
    rcases (show w = 0 ∨ w = 1 by omega) with rfl | rfl
    · simp only [↓reduceIte]
      by_cases q : (0 < (va : Int) - vb ∧ 0 < (u : Int) - v) ∨ ((va : Int) - vb < 0 ∧ (u : Int) - v < 0)
      · rw [if_pos q, if_pos ⟨⟨e1, e2, e3, e4⟩, by omega⟩]; rfl
      · rw [if_neg q, if_neg (fun h => q (by have := h.2; omega))]; rfl
    · simp only [show ¬ (1 : Nat) = 0 by omega, ↓reduceIte]
      by_cases q : (0 < (va : Int) - vb ∧ (u : Int) - v < 0) ∨ ((va : Int) - vb < 0 ∧ 0 < (u : Int) - v)
      · rw [if_pos q, if_pos ⟨⟨e1, e2, e3, e4⟩, by omega⟩]; rfl
      · rw [if_neg q, if_neg (fun h => q (by have := h.2; omega))]; rfl
  · have zz : (if μ.1 8 a < 0 ∨ μ.1 8 b < 0 then (0 : Int32) else μ.1 8 a - μ.1 8 b).toInt = 0 ∨ (if ct σ a = 0 ∨ ct σ b = 0 then (0 : Int32) else nI u - nI v).toInt = 0 := by
      by_cases h1 : μ.1 8 a = -6
      · left; rw [if_pos (Or.inl (by rw [h1]; exact n6))]; rfl
      · by_cases h2 : μ.1 8 b = -6
        · left; rw [if_pos (Or.inr (by rw [h2]; exact n6))]; rfl
        · right
          have : ct σ a = 0 ∨ ct σ b = 0 := by
            by_cases h3 : ct σ a = 0
            · exact Or.inl h3
            · by_cases h4 : ct σ b = 0
              · exact Or.inr h4
              · exact absurd ⟨h1, h2, h3, h4⟩ e
          rw [if_pos this]; rfl
    generalize (if μ.1 8 a < 0 ∨ μ.1 8 b < 0 then (0 : Int32) else μ.1 8 a - μ.1 8 b).toInt = T at *
    generalize (if ct σ a = 0 ∨ ct σ b = 0 then (0 : Int32) else nI u - nI v).toInt = K at *
    rcases (show w = 0 ∨ w = 1 by omega) with rfl | rfl
    · simp only [↓reduceIte]
      rw [if_neg (show ¬ (0 < T ∧ 0 < K ∨ T < 0 ∧ K < 0) by omega), if_neg (fun h => e h.1)]; rfl
    · simp only [show ¬ (1 : Nat) = 0 by omega, ↓reduceIte]
      rw [if_neg (show ¬ (0 < T ∧ K < 0 ∨ T < 0 ∧ 0 < K) by omega), if_neg (fun h => e h.1)]; rfl
theorem heldM_l28 {σ μ : St} {J P : Nat} (hM : IvM σ μ J P) (hJ : μ.2.1 0 = nI J) (h6 : J ≤ 6) (hL : ∀ i, i < P → σ.1 17 i = μ.1 8 i ∧ (μ.1 8 i = -6 ∨ inR (μ.1 8 i) 0 9)) (p6 : P ≤ 6) {w : Nat} (hw : w < 2) (rc : St → Int32 → Int32 → Int32 → Option (Int32 × St)) {a : Nat} (ha : a < P) (acc : Nat) : ∀ (n b : Nat), b ≤ a → a - b < n → fX9_held_l28 rc n μ (nI w) (nI (acc + miC w σ a b)) (nI a) (nI b) = rc μ (nI w) (nI (acc + miC w σ a a)) (nI (a + 1)) := by
  intro n
  induction n with
  | zero => intro b h1 h2; omega
  | succ n ih =>
    intro b h1 h2
    show fX9_held_b28 rc (fX9_held_l28 rc n) μ (nI w) (nI (acc + miC w σ a b)) (nI a) (nI b) = _
    unfold fX9_held_b28 fX9_held_b53
    by_cases hb : b = a
    · subst hb
      rw [if_pos (nI_le (Nat.le_refl b) (by omega)), show nI b + (1 : Int32) = nI (b + 1) from nI_1 b]
    · have hlt : b < a := by omega
      have hm := moreM_spec hM hJ h6 (show a < 6 by omega) (show b < 6 by omega)
      have hg := pair_g hM h6 hL p6 ha (show b < P by omega) hw
      rw [if_neg (nI_ge hlt (by omega)), if_pos (ib_nI (show a < 6 by omega) (by omega)), if_pos (ib_nI (show b < 6 by omega) (by omega)), if_pos (ib_nI (show a < 6 by omega) (by omega)), if_pos (ib_nI (show b < 6 by omega) (by omega)), nI_clamp (n := a) (by omega), nI_clamp (n := b) (by omega)]
      rw [held_pair rc _ μ hw _ _ _ 0 _ hm, held_pair rc _ μ hw _ _ _ _ _ hm]
      have nxt : ∀ x : Int32, x = nI (gP w σ a b) → fX9_held_l28 rc n μ (nI w) (nI (acc + miC w σ a b) + x) (nI a) (nI b + 1) = rc μ (nI w) (nI (acc + miC w σ a a)) (nI (a + 1)) := by
        intro x hx
        rw [hx, nI_add, show nI b + (1 : Int32) = nI (b + 1) from nI_1 b, Nat.add_assoc]
        exact ih (b + 1) (by omega) (by omega)
      by_cases d1 : μ.1 8 a < 0
      · rw [if_pos d1]
        rw [if_pos (show μ.1 8 a < 0 ∨ μ.1 8 b < 0 from Or.inl d1)] at hg
        exact nxt _ hg
      · rw [if_neg d1]
        by_cases d2 : μ.1 8 b < 0
        · rw [if_neg (show ¬ (0 : Int32) ≤ μ.1 8 b from fun q => by have q1 := Int32.le_iff_toInt_le.mp q; have q2 := Int32.lt_iff_toInt_lt.mp d2; omega)]
          rw [if_pos (show μ.1 8 a < 0 ∨ μ.1 8 b < 0 from Or.inr d2)] at hg
          exact nxt _ hg
        · rw [if_pos (show (0 : Int32) ≤ μ.1 8 b from Int32.le_iff_toInt_le.mpr (by have q2 : ¬ (μ.1 8 b).toInt < (0 : Int32).toInt := fun q => d2 (Int32.lt_iff_toInt_lt.mpr q); omega))]
          rw [if_neg (show ¬ (μ.1 8 a < 0 ∨ μ.1 8 b < 0) from fun q => q.elim d1 d2)] at hg
          exact nxt _ hg
theorem heldM_l17 {σ μ : St} {J P : Nat} (hM : IvM σ μ J P) (hJ : μ.2.1 0 = nI J) (hP : μ.2.1 1 = nI P) (h6 : J ≤ 6) (hL : ∀ i, i < P → σ.1 17 i = μ.1 8 i ∧ (μ.1 8 i = -6 ∨ inR (μ.1 8 i) 0 9)) (p6 : P ≤ 6) {w : Nat} (hw : w < 2) : ∀ (n a : Nat), a ≤ P → P - a < n → fX9_held_l17 n μ (nI w) (nI (moC w σ a)) (nI a) = some (nI (moC w σ P), μ) := by
  intro n
  induction n with
  | zero => intro a h1 h2; omega
  | succ n ih =>
    intro a h1 h2
    show fX9_held_b17 (fX9_held_l17 n) μ (nI w) (nI (moC w σ a)) (nI a) = _
    unfold fX9_held_b17
    rw [hP]
    by_cases ha : a = P
    · subst ha
      rw [if_pos (nI_le (Nat.le_refl a) (by omega))]
    · have hlt : a < P := by omega
      rw [if_neg (nI_ge hlt (by omega))]
      have := heldM_l28 hM hJ h6 hL p6 hw (fX9_held_l17 n) hlt (moC w σ a) gF 0 (by omega) (by simp [gF]; omega)
      exact this.trans (ih (a + 1) (by omega) (by omega))
theorem op_held : Op_held Inv := by
  intro σ μ hI a1
  obtain ⟨J, P, S, C, hN, hJ, hP, hM, hR⟩ := id hI
  obtain ⟨n1, n2, n3, n4, n5, n6, n7, n8, n9, n10, n11, n12⟩ := id hN
  by_cases c : 0 ≤ a1.toInt ∧ a1.toInt < 2
  · obtain ⟨w, hw, rfl⟩ := nI_ex (N := 2) c (by omega)
    rw [heldC_spec (mkok hM n1) n7 n2 hw]
    unfold fX9_held
    rw [in_spec, b_some, i2l_toInt]
    dsimp only
    rw [bI_ne0, if_pos (show (0 : Int64).toInt ≤ (nI w).toInt ∧ (nI w).toInt ≤ (1 : Int64).toInt from ⟨c.1, by have := c.2; have e : (1 : Int64).toInt = 1 := rfl; omega⟩)]
    have := heldM_l17 hM n6 n8 n1 hP.2.2.2.1 n2 hw gF 0 (by omega) (by simp [gF]; omega)
    refine ⟨nI (hoC w σ P P), σ, μ, rfl, ?_, hI⟩
    rw [ho_mo w σ n2]
    exact this
  · unfold fX8_held fX9_held
    rw [within_spec, in_spec, b_some, b_some, i2l_toInt]
    dsimp only
    rw [bI_ne0, bI_ne0, if_neg (show ¬ ((0 : Int32).toInt ≤ a1.toInt ∧ a1.toInt ≤ (1 : Int32).toInt) from fun q => c ⟨q.1, by have := q.2; have e : (1 : Int32).toInt = 1 := rfl; omega⟩), if_neg (show ¬ ((0 : Int64).toInt ≤ a1.toInt ∧ a1.toInt ≤ (1 : Int64).toInt) from fun q => c ⟨q.1, by have := q.2; have e : (1 : Int64).toInt = 1 := rfl; omega⟩)]
    exact ⟨_, _, _, rfl, rfl, hI⟩
