/-! ===== favours and gave, swaps, rings ===== -/
def fvb (σ : St) (a w : Nat) : Nat → Nat
  | 0 => 0
  | k + 1 => if fvb σ a w k = 1 then 1 else if σ.1 15 k = nI w ∧ ¬ σ.1 19 (6 * a + k) < 4 then 1 else 0
theorem fvb_le (σ : St) (a w : Nat) : ∀ k, fvb σ a w k ≤ 1 := by
  intro k
  cases k with
  | zero => simp [fvb]
  | succ k =>
    simp only [fvb]
    by_cases h1 : fvb σ a w k = 1
    · rw [if_pos h1]; omega
    · rw [if_neg h1]
      by_cases h2 : σ.1 15 k = nI w ∧ ¬ σ.1 19 (6 * a + k) < 4
      · rw [if_pos h2]; omega
      · rw [if_neg h2]; omega
theorem fvb_up (σ : St) (a w : Nat) {k : Nat} (h : fvb σ a w k = 1) : ∀ m, k ≤ m → fvb σ a w m = 1 := by
  intro m
  induction m with
  | zero => intro hk; rw [show 0 = k by omega]; exact h
  | succ m ih =>
    intro hk
    by_cases hkm : k = m + 1
    · rw [← hkm]; exact h
    · simp only [fvb, ih (by omega)]
      rfl
theorem favours_l {σ : St} {P : Nat} (hP : σ.2.1 1 = nI P) (p6 : P ≤ 6) {a w : Nat} (ha : a < 6) : ∀ (n k : Nat), k ≤ P → P - k < n → fvb σ a w k = 0 → fX8_favours_l2 n σ (nI a) (nI w) (nI k) = some (nI (fvb σ a w P), σ) := by
  intro n
  induction n with
  | zero => intro k h1 h2; omega
  | succ n ih =>
    intro k h1 h2 h3
    show fX8_favours_b2 (fX8_favours_l2 n) σ (nI a) (nI w) (nI k) = _
    unfold fX8_favours_b2
    rw [hP]
    by_cases hk : k = P
    · subst hk
      rw [if_pos (nI_le (Nat.le_refl k) (by omega)), h3]
      rfl
    · have hlt : k < P := by omega
      rw [if_neg (nI_ge hlt (by omega)), if_pos (ib_nI (show k < 6 by omega) (by omega)), nI_clamp (n := k) (by omega), of_spec σ ha (show k < 6 by omega), b_some]
      dsimp only
      unfold fX8_favours_b41
      rw [show nI k + (1 : Int32) = nI (k + 1) from nI_1 k]
      by_cases c1 : σ.1 15 k = nI w
      · rw [if_pos c1]
        by_cases c2 : σ.1 19 (6 * a + k) < 4
        · rw [if_pos c2]
          refine ih (k + 1) (by omega) (by omega) ?_
          simp only [fvb]
          rw [if_neg (by omega), if_neg (fun q => q.2 c2)]
        · rw [if_neg c2, fvb_up σ a w (k := k + 1) ?_ P (by omega)]
          · rfl
          · simp only [fvb]
            rw [if_neg (by omega), if_pos ⟨c1, c2⟩]
      · rw [if_neg c1]
        refine ih (k + 1) (by omega) (by omega) ?_
        simp only [fvb]
        rw [if_neg (by omega), if_neg (fun q => c1 q.1)]
theorem favours_spec {σ : St} {P : Nat} (hP : σ.2.1 1 = nI P) (p6 : P ≤ 6) {a w : Nat} (ha : a < 6) : fX8_favours σ (nI a) (nI w) = some (nI (fvb σ a w P), σ) := favours_l hP p6 ha gF 0 (by omega) (by simp [gF]; omega) rfl
theorem gave_l {σ μ : St} {J P : Nat} (hM : IvM σ μ J P) (hW : ∀ i, i < P → σ.1 15 i = μ.1 6 i) (hP : μ.2.1 1 = nI P) (h6 : J ≤ 6) (p6 : P ≤ 6) {a w : Nat} (ha : a < J) : ∀ (n k : Nat), k ≤ P → P - k < n → fX9_gave_l5 n μ (nI a) (nI w) (nI (fvb σ a w k)) (nI k) = some (nI (fvb σ a w P), μ) := by
  intro n
  induction n with
  | zero => intro k h1 h2; omega
  | succ n ih =>
    intro k h1 h2
    show fX9_gave_b5 (fX9_gave_l5 n) μ (nI a) (nI w) (nI (fvb σ a w k)) (nI k) = _
    have hl := fvb_le σ a w k
    unfold fX9_gave_b5
    rw [hP]
    by_cases hk : k = P
    · subst hk
      rw [if_pos (nI_le (Nat.le_refl k) (by omega)), if_pos]
      rcases (show fvb σ a w k = 0 ∨ fvb σ a w k = 1 by omega) with q | q
      · rw [q]; exact Or.inl rfl
      · rw [q]; exact Or.inr rfl
    · have hlt : k < P := by omega
      rw [if_neg (nI_ge hlt (by omega))]
      unfold fX9_gave_b44 fX9_gave_b48 fX9_gave_b49 fX9_at
      simp only [b_some, at6']
      rw [if_pos (ib_nI (show k < 6 by omega) (by omega)), if_pos (ib_nI (show 6 * a + k < 36 by omega) (by omega)), nI_clamp (n := k) (by omega), nI_clamp (n := 6 * a + k) (by omega), ← hW k hlt, (mk_facts hM ha h6 (show k < 6 by omega)).1, show nI k + (1 : Int32) = nI (k + 1) from nI_1 k, ← ih (k + 1) (by omega) (by omega)]
      simp only [fvb]
      by_cases c0 : fvb σ a w k = 1
      · rw [if_neg (fun q => by have := (nI_z (n := fvb σ a w k) (by omega)).mp q; omega), if_pos c0]
        rfl
      · rw [if_pos ((nI_z (n := fvb σ a w k) (by omega)).mpr (by omega)), if_neg c0]
        by_cases c1 : σ.1 15 k = nI w
        · rw [if_pos c1]
          by_cases c2 : σ.1 19 (6 * a + k) < 4
          · rw [if_pos c2, if_neg (fun q => q.2 c2)]
            rfl
          · rw [if_neg c2, if_pos ⟨c1, c2⟩]
            rfl
        · rw [if_neg c1, if_neg (fun q => c1 q.1)]
          rfl
theorem gave_spec {σ μ : St} {J P : Nat} (hM : IvM σ μ J P) (hW : ∀ i, i < P → σ.1 15 i = μ.1 6 i) (hP : μ.2.1 1 = nI P) (h6 : J ≤ 6) (p6 : P ≤ 6) {a w : Nat} (ha : a < J) : fX9_gave μ (nI a) (nI w) = some (nI (fvb σ a w P), μ) := gave_l hM hW hP h6 p6 ha gF 0 (by omega) (by simp [gF]; omega)
def Rl {α : Type} (σ μ : St) (x y : Option (α × St)) : Prop := ∃ r, x = some (r, σ) ∧ y = some (r, μ)
section RINGS
variable {σ μ : St} {J P : Nat}
theorem swap_l20 (hM : IvM σ μ J P) (hW : ∀ i, i < P → σ.1 15 i = μ.1 6 i) (hJ1 : σ.2.1 0 = nI J) (hJ2 : μ.2.1 0 = nI J) (hP1 : σ.2.1 1 = nI P) (hP2 : μ.2.1 1 = nI P) (h6 : J ≤ 6) (p6 : P ≤ 6) {rc rc' : St → Int32 → Int32 → Int32 → Option (Int32 × St)} {a : Nat} (ha : a < J) (x1 : Int32) (hrc : ∀ x2, Rl σ μ (rc σ x1 x2 (nI (a + 1))) (rc' μ x1 x2 (nI (a + 1)))) : ∀ (n b : Nat) (x2 : Int32), b ≤ J → J - b < n → Rl σ μ (fX8_swap_l20 rc n σ x1 x2 (nI a) (nI b)) (fX9_swap_l17 rc' n μ x1 x2 (nI a) (nI b)) := by
  intro n
  induction n with
  | zero => intro b x2 h1 h2; omega
  | succ n ih =>
    intro b x2 h1 h2
    show Rl σ μ (fX8_swap_b20 rc (fX8_swap_l20 rc n) σ x1 x2 (nI a) (nI b)) (fX9_swap_b17 rc' (fX9_swap_l17 rc' n) μ x1 x2 (nI a) (nI b))
    unfold fX8_swap_b20 fX9_swap_b17 fX8_swap_b68 fX9_swap_b62
    rw [hJ1, hJ2]
    by_cases hb : b = J
    · subst hb
      rw [if_pos (nI_le (Nat.le_refl b) (by omega)), if_pos (nI_le (Nat.le_refl b) (by omega)), show nI a + (1 : Int32) = nI (a + 1) from nI_1 a]
      exact hrc x2
    · have hlt : b < J := by omega
      rw [if_neg (nI_ge hlt (by omega)), if_neg (nI_ge hlt (by omega)), favours_spec hP1 p6 (show a < 6 by omega), gave_spec hM hW hP2 h6 p6 ha, b_some, b_some]
      dsimp only
      rw [favours_spec hP1 p6 (show b < 6 by omega), gave_spec hM hW hP2 h6 p6 hlt, b_some, b_some, show nI b + (1 : Int32) = nI (b + 1) from nI_1 b]
      dsimp only
      by_cases c1 : nI (fvb σ a b P) = 0
      · rw [if_pos c1, if_pos c1]; exact ih (b + 1) x2 (by omega) (by omega)
      · rw [if_neg c1, if_neg c1]
        by_cases c2 : nI (fvb σ b a P) = 0
        · rw [if_pos c2, if_pos c2]; exact ih (b + 1) x2 (by omega) (by omega)
        · rw [if_neg c2, if_neg c2]
          by_cases c3 : x2 = x1
          · rw [if_pos c3, if_pos c3]; exact ⟨_, rfl, rfl⟩
          · rw [if_neg c3, if_neg c3]; exact ih (b + 1) (x2 + 1) (by omega) (by omega)
theorem swap_l4 (hM : IvM σ μ J P) (hW : ∀ i, i < P → σ.1 15 i = μ.1 6 i) (hJ1 : σ.2.1 0 = nI J) (hJ2 : μ.2.1 0 = nI J) (hP1 : σ.2.1 1 = nI P) (hP2 : μ.2.1 1 = nI P) (h6 : J ≤ 6) (p6 : P ≤ 6) (x1 : Int32) : ∀ (n a : Nat) (x2 : Int32), a ≤ J → J - a < n → Rl σ μ (fX8_swap_l4 n σ x1 x2 (nI a)) (fX9_swap_l4 n μ x1 x2 (nI a)) := by
  intro n
  induction n with
  | zero => intro a x2 h1 h2; omega
  | succ n ih =>
    intro a x2 h1 h2
    show Rl σ μ (fX8_swap_b4 (fX8_swap_l4 n) σ x1 x2 (nI a)) (fX9_swap_b4 (fX9_swap_l4 n) μ x1 x2 (nI a))
    unfold fX8_swap_b4 fX9_swap_b4
    rw [hJ1, hJ2]
    by_cases ha : a = J
    · subst ha
      rw [if_pos (nI_le (Nat.le_refl a) (by omega)), if_pos (nI_le (Nat.le_refl a) (by omega))]
      by_cases c : x1 = -1
      · rw [if_pos c, if_pos c]; exact ⟨_, rfl, rfl⟩
      · rw [if_neg c, if_neg c]; exact ⟨_, rfl, rfl⟩
    · have hlt : a < J := by omega
      rw [if_neg (nI_ge hlt (by omega)), if_neg (nI_ge hlt (by omega)), show nI a + (1 : Int32) = nI (a + 1) from nI_1 a]
      exact swap_l20 hM hW hJ1 hJ2 hP1 hP2 h6 p6 hlt x1 (fun x2 => ih (a + 1) x2 (by omega) (by omega)) gF (a + 1) x2 (by omega) (by simp [gF]; omega)
theorem ring_l37 (hM : IvM σ μ J P) (hW : ∀ i, i < P → σ.1 15 i = μ.1 6 i) (hJ1 : σ.2.1 0 = nI J) (hJ2 : μ.2.1 0 = nI J) (hP1 : σ.2.1 1 = nI P) (hP2 : μ.2.1 1 = nI P) (h6 : J ≤ 6) (p6 : P ≤ 6) {rd rd' : St → Int32 → Int32 → Int32 → Option (Int32 × St)} {rc rc' : St → Int32 → Int32 → Int32 → Int32 → Option (Int32 × St)} {a b : Nat} (ha : a < J) (hb : b < J) (x1 : Int32) (hrc : ∀ x2, Rl σ μ (rc σ x1 x2 (nI a) (nI (b + 1))) (rc' μ x1 x2 (nI a) (nI (b + 1)))) : ∀ (n c : Nat) (x2 : Int32), c ≤ J → J - c < n → Rl σ μ (fX8_ring_l37 rd rc n σ x1 x2 (nI a) (nI b) (nI c)) (fX9_ring_l31 rd' rc' n μ x1 x2 (nI a) (nI b) (nI c)) := by
  intro n
  induction n with
  | zero => intro c x2 h1 h2; omega
  | succ n ih =>
    intro c x2 h1 h2
    show Rl σ μ (fX8_ring_b37 rd rc (fX8_ring_l37 rd rc n) σ x1 x2 (nI a) (nI b) (nI c)) (fX9_ring_b31 rd' rc' (fX9_ring_l31 rd' rc' n) μ x1 x2 (nI a) (nI b) (nI c))
    unfold fX8_ring_b37 fX9_ring_b31 fX8_ring_b109 fX9_ring_b100
    rw [hJ1, hJ2]
    by_cases hc : c = J
    · subst hc
      rw [if_pos (nI_le (Nat.le_refl c) (by omega)), if_pos (nI_le (Nat.le_refl c) (by omega)), show nI b + (1 : Int32) = nI (b + 1) from nI_1 b]
      exact hrc x2
    · have hlt : c < J := by omega
      rw [if_neg (nI_ge hlt (by omega)), if_neg (nI_ge hlt (by omega)), favours_spec hP1 p6 (show a < 6 by omega), gave_spec hM hW hP2 h6 p6 ha, b_some, b_some]
      dsimp only
      rw [favours_spec hP1 p6 (show b < 6 by omega), gave_spec hM hW hP2 h6 p6 hb, b_some, b_some]
      dsimp only
      rw [favours_spec hP1 p6 (show c < 6 by omega), gave_spec hM hW hP2 h6 p6 hlt, b_some, b_some, show nI c + (1 : Int32) = nI (c + 1) from nI_1 c]
      dsimp only
      by_cases c0 : nI b = nI c
      · rw [if_pos c0, if_pos c0]; exact ih (c + 1) x2 (by omega) (by omega)
      · rw [if_neg c0, if_neg c0]
        by_cases c1 : nI (fvb σ a b P) = 0
        · rw [if_pos c1, if_pos c1]; exact ih (c + 1) x2 (by omega) (by omega)
        · rw [if_neg c1, if_neg c1]
          by_cases c2 : nI (fvb σ b c P) = 0
          · rw [if_pos c2, if_pos c2]; exact ih (c + 1) x2 (by omega) (by omega)
          · rw [if_neg c2, if_neg c2]
            by_cases c3 : nI (fvb σ c a P) = 0
            · rw [if_pos c3, if_pos c3]; exact ih (c + 1) x2 (by omega) (by omega)
            · rw [if_neg c3, if_neg c3]
              by_cases c4 : x2 = x1
              · rw [if_pos c4, if_pos c4]; exact ⟨_, rfl, rfl⟩
              · rw [if_neg c4, if_neg c4]; exact ih (c + 1) (x2 + 1) (by omega) (by omega)
theorem ring_l20 (hM : IvM σ μ J P) (hW : ∀ i, i < P → σ.1 15 i = μ.1 6 i) (hJ1 : σ.2.1 0 = nI J) (hJ2 : μ.2.1 0 = nI J) (hP1 : σ.2.1 1 = nI P) (hP2 : μ.2.1 1 = nI P) (h6 : J ≤ 6) (p6 : P ≤ 6) {rd rd' : St → Int32 → Int32 → Int32 → Option (Int32 × St)} {a : Nat} (ha : a < J) (x1 : Int32) (hrd : ∀ x2, Rl σ μ (rd σ x1 x2 (nI (a + 1))) (rd' μ x1 x2 (nI (a + 1)))) : ∀ (n b : Nat) (x2 : Int32), b ≤ J → J - b < n → Rl σ μ (fX8_ring_l20 rd n σ x1 x2 (nI a) (nI b)) (fX9_ring_l17 rd' n μ x1 x2 (nI a) (nI b)) := by
  intro n
  induction n with
  | zero => intro b x2 h1 h2; omega
  | succ n ih =>
    intro b x2 h1 h2
    show Rl σ μ (fX8_ring_b20 rd (fX8_ring_l20 rd n) σ x1 x2 (nI a) (nI b)) (fX9_ring_b17 rd' (fX9_ring_l17 rd' n) μ x1 x2 (nI a) (nI b))
    unfold fX8_ring_b20 fX9_ring_b17
    rw [hJ1, hJ2, show nI a + (1 : Int32) = nI (a + 1) from nI_1 a]
    by_cases hb : b = J
    · subst hb
      rw [if_pos (nI_le (Nat.le_refl b) (by omega)), if_pos (nI_le (Nat.le_refl b) (by omega))]
      exact hrd x2
    · have hlt : b < J := by omega
      rw [if_neg (nI_ge hlt (by omega)), if_neg (nI_ge hlt (by omega))]
      exact ring_l37 hM hW hJ1 hJ2 hP1 hP2 h6 p6 ha hlt x1 (fun x2 => ih (b + 1) x2 (by omega) (by omega)) gF (a + 1) x2 (by omega) (by simp [gF]; omega)
theorem ring_l4 (hM : IvM σ μ J P) (hW : ∀ i, i < P → σ.1 15 i = μ.1 6 i) (hJ1 : σ.2.1 0 = nI J) (hJ2 : μ.2.1 0 = nI J) (hP1 : σ.2.1 1 = nI P) (hP2 : μ.2.1 1 = nI P) (h6 : J ≤ 6) (p6 : P ≤ 6) (x1 : Int32) : ∀ (n a : Nat) (x2 : Int32), a ≤ J → J - a < n → Rl σ μ (fX8_ring_l4 n σ x1 x2 (nI a)) (fX9_ring_l4 n μ x1 x2 (nI a)) := by
  intro n
  induction n with
  | zero => intro a x2 h1 h2; omega
  | succ n ih =>
    intro a x2 h1 h2
    show Rl σ μ (fX8_ring_b4 (fX8_ring_l4 n) σ x1 x2 (nI a)) (fX9_ring_b4 (fX9_ring_l4 n) μ x1 x2 (nI a))
    unfold fX8_ring_b4 fX9_ring_b4
    rw [hJ1, hJ2]
    by_cases ha : a = J
    · subst ha
      rw [if_pos (nI_le (Nat.le_refl a) (by omega)), if_pos (nI_le (Nat.le_refl a) (by omega))]
      by_cases c : x1 = -1
      · rw [if_pos c, if_pos c]; exact ⟨_, rfl, rfl⟩
      · rw [if_neg c, if_neg c]; exact ⟨_, rfl, rfl⟩
    · have hlt : a < J := by omega
      rw [if_neg (nI_ge hlt (by omega)), if_neg (nI_ge hlt (by omega)), show nI a + (1 : Int32) = nI (a + 1) from nI_1 a]
      exact ring_l20 hM hW hJ1 hJ2 hP1 hP2 h6 p6 hlt x1 (fun x2 => ih (a + 1) x2 (by omega) (by omega)) gF (a + 1) x2 (by omega) (by simp [gF]; omega)
end RINGS
theorem op_swap : Op_swap Inv := by
  intro σ μ hI a1
  obtain ⟨J, P, S, C, hN, hJ, hP, hM, hR⟩ := id hI
  obtain ⟨n1, n2, n3, n4, n5, n6, n7, n8, n9, n10, n11, n12⟩ := id hN
  obtain ⟨r, e1, e2⟩ := swap_l4 hM (fun i hi => (hP.2.1 i hi).1) n5 n6 n7 n8 n1 n2 a1 gF 0 0 (by omega) (by simp [gF]; omega)
  exact ⟨r, σ, μ, e1, e2, hI⟩
theorem op_ring : Op_ring Inv := by
  intro σ μ hI a1
  obtain ⟨J, P, S, C, hN, hJ, hP, hM, hR⟩ := id hI
  obtain ⟨n1, n2, n3, n4, n5, n6, n7, n8, n9, n10, n11, n12⟩ := id hN
  obtain ⟨r, e1, e2⟩ := ring_l4 hM (fun i hi => (hP.2.1 i hi).1) n5 n6 n7 n8 n1 n2 a1 gF 0 0 (by omega) (by simp [gF]; omega)
  exact ⟨r, σ, μ, e1, e2, hI⟩
