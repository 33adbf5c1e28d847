/-! ===== match: what the reference's table holds ===== -/
def rwM (μ : St) (p n : Nat) : Int32 := μ.1 16 (15625 * p + n)
def tS (P : Nat) (f : Nat → Nat) : Nat → Nat
  | 0 => 0
  | m + 1 => f (P - 1 - m) + tS P f m
theorem tS_congr {P : Nat} {f g : Nat → Nat} : ∀ m, (∀ i, i < m → f (P - 1 - i) = g (P - 1 - i)) → tS P f m = tS P g m := by
  intro m
  induction m with
  | zero => intro _; rfl
  | succ m ih => intro h; simp only [tS]; rw [ih (fun i hi => h i (by omega)), h m (by omega)]
def Cp (σ : St) (P J k l m : Nat) (L X : Nat → Nat) : Prop := (∀ i, i < m → X (P - 1 - i) < 2 ^ J ∧ ft σ J k (P - 1 - i) (X (P - 1 - i))) ∧ (∀ j, j < 6 → L j + tS P (fun q => bt (X q) j) m ≤ l)
def DSL (σ : St) (P J k l m : Nat) (a : Nat → Int32) (L : Nat → Nat) : Prop := (a (cd L) = -6 ∨ ∃ v, v ≤ 18 * m ∧ a (cd L) = nI v) ∧ (∀ X, Cp σ P J k l m L X → sN L 6 = k * (P - m) → ∃ v, v ≤ 18 * m ∧ a (cd L) = nI v ∧ tS P (fun q => bo σ J q (X q)) m ≤ v) ∧ (∀ v, v ≤ 18 * m → a (cd L) = nI v → ∃ X, Cp σ P J k l m L X ∧ tS P (fun q => bo σ J q (X q)) m = v)
def DS (σ : St) (P J k l m : Nat) (a : Nat → Int32) : Prop := ∀ L, (∀ j, j < 6 → L j ≤ l) → DSL σ P J k l m a L
theorem DSL_eq {σ : St} {P J k l m : Nat} {a a' : Nat → Int32} {L : Nat → Nat} (e : a' (cd L) = a (cd L)) (h : DSL σ P J k l m a L) : DSL σ P J k l m a' L := by
  unfold DSL at *
  rw [e]
  exact h
theorem Cp_L {σ : St} {P J k l m : Nat} {L L' X : Nat → Nat} (e : ∀ j, j < 6 → L j = L' j) (h : Cp σ P J k l m L' X) : Cp σ P J k l m L X := ⟨h.1, fun j hj => by rw [e j hj]; exact h.2 j hj⟩
theorem DSL_L {σ : St} {P J k l m : Nat} {a : Nat → Int32} {L L' : Nat → Nat} (e : ∀ j, j < 6 → L j = L' j) (h : DSL σ P J k l m a L) : DSL σ P J k l m a L' := by
  have ec := cd_congr e
  have es : sN L 6 = sN L' 6 := sN_congr 6 e
  obtain ⟨h1, h2, h3⟩ := h
  unfold DSL
  rw [← ec, ← es]
  refine ⟨h1, fun X hX => h2 X (Cp_L e hX), fun v hv hq => ?_⟩
  obtain ⟨X, x1, x2⟩ := h3 v hv hq
  exact ⟨X, Cp_L (fun j hj => (e j hj).symm) x1, x2⟩
def Good (σ : St) (J k l p m : Nat) (a : Nat → Int32) (L : Nat → Nat) (y v : Nat) : Prop := ∃ v0, v0 ≤ 18 * m ∧ ft σ J k p y ∧ (∀ j, j < 6 → L j + bt y j ≤ l) ∧ a (cd (fun j => L j + bt y j)) = nI v0 ∧ v = v0 + bo σ J p y
theorem nI_ge0 {n : Nat} (h : n < 2 ^ 31) : (0 : Int32) ≤ nI n := nI_le (a := 0) (Nat.zero_le n) h
theorem ix16 (p n : Nat) : (15625 : Int32) * nI p + nI n = nI (15625 * p + n) := by
  rw [show (15625 : Int32) * nI p = nI (15625 * p) from pk_mul 15625 p, nI_add]
theorem brings_spec {σ μ μ' : St} {J P S C k l m : Nat} (hN : IvN σ μ J P S C) (hJ : IvJ σ μ J) (hP : IvP σ μ J P) (hM : sameM μ μ') (hk : k ≤ 3) (hl : l ≤ 4) {p : Nat} (hp : p < P) (hm : m ≤ 6) (hD : DS σ P J k l m (rwM μ' (p + 1))) {L : Nat → Nat} (hL : ∀ j, j < 6 → L j ≤ l) {x : Nat} (hx : x < 2 ^ J) : ∃ r, fX9_bringsOf μ' (nI p) (nI (cd L)) (nI x) (nI k) (nI l) = some (r, μ') ∧ ((r = -6 ∧ ∀ v, ¬ Good σ J k l p m (rwM μ' (p + 1)) L x v) ∨ (∃ v, v ≤ 18 * (m + 1) ∧ r = nI v ∧ Good σ J k l p m (rwM μ' (p + 1)) L x v)) := by
  obtain ⟨n1, n2, n3, n4, n5, n6, n7, n8, n9, n10, n11, n12⟩ := id hN
  have h64 := two_pow6 n1
  have hL4 : ∀ j, j < 6 → L j ≤ 4 := fun j hj => by have := hL j hj; omega
  unfold fX9_bringsOf fX9_bringsOf_b24 fX9_bringsOf_b51
  obtain ⟨r, r1, r2, r3⟩ := fit_spec hN hJ hP hM hk hp hx
  rw [r1, b_some]
  dsimp only
  have n6' : ¬ (0 : Int32) ≤ -6 := by decide
  by_cases c : r = 0
  · rw [if_pos c, if_neg n6', if_neg n6']
    refine ⟨-6, rfl, Or.inl ⟨rfl, ?_⟩⟩
    rintro v ⟨v0, -, g2, -⟩
    have := r3.mpr g2
    rw [c] at this
    exact absurd this (by decide)
  · rw [if_neg c]
    have hft : ft σ J k p x := r3.mp (by
      rcases r2 with q | q
      · exact absurd q c
      · exact q)
    rw [loads_spec μ' hL4 (show x < 64 by omega) hl, b_some]
    dsimp only
    by_cases d : ∀ i, i < 6 → L i + bt x i ≤ l
    · rw [dif_pos d]
      have hlt := cd_lt (L := fun i => L i + bt x i) (fun j hj => by have := d j hj; omega)
      rw [if_pos (nI_ge0 (by omega)), show nI p + (1 : Int32) = nI (p + 1) from nI_1 p, ix16, if_pos (ib_nI (show 15625 * (p + 1) + cd (fun i => L i + bt x i) < 109375 by omega) (by omega)), nI_clamp (by omega)]
      rw [show μ'.1 16 (15625 * (p + 1) + cd (fun i => L i + bt x i)) = rwM μ' (p + 1) (cd (fun i => L i + bt x i)) from rfl]
      rcases (hD (fun i => L i + bt x i) d).1 with q | ⟨v0, q1, q2⟩
      · rw [q, if_neg n6']
        refine ⟨-6, rfl, Or.inl ⟨rfl, ?_⟩⟩
        rintro v ⟨v0, g1, -, -, g4, -⟩
        rw [q] at g4
        exact nI_nem6 (show v0 < 2 ^ 31 by omega) g4.symm
      · have hbo := bo_le hP n1 (show p < 6 by omega) x
        rw [q2, if_pos (nI_ge0 (by omega)), bids_spec hN hP hM hp (show x < 64 by omega), b_some]
        dsimp only
        rw [nI_add]
        exact ⟨_, rfl, Or.inr ⟨v0 + bo σ J p x, by omega, rfl, v0, q1, hft, d, q2, rfl⟩⟩
    · rw [dif_neg d, if_neg n6', if_neg n6']
      refine ⟨-6, rfl, Or.inl ⟨rfl, ?_⟩⟩
      rintro v ⟨v0, -, -, g3, -⟩
      exact d g3
theorem shJ : ∀ J, J < 7 → ((1 : Int32) <<< (nI J &&& 31)) = nI (2 ^ J) := by decide +kernel
theorem most_l82 {σ μ μ' : St} {J P S C k l m : Nat} (hN : IvN σ μ J P S C) (hJ : IvJ σ μ J) (hP : IvP σ μ J P) (hM : sameM μ μ') (hk : k ≤ 3) (hl : l ≤ 4) {p : Nat} (hp : p < P) (hm : m ≤ 6) (hD : DS σ P J k l m (rwM μ' (p + 1))) {L : Nat → Nat} (hL : ∀ j, j < 6 → L j ≤ l) (rc38 : St → Int32 → Int32 → Int32 → Option (Unit × St)) (rc45 : St → Int32 → Int32 → Int32 → Int32 → Option (Unit × St)) : ∀ (n x : Nat) (M : Int32), x ≤ 2 ^ J → 2 ^ J - x < n → ((M = -6 ∨ ∃ v y, y < x ∧ v ≤ 18 * (m + 1) ∧ M = nI v ∧ Good σ J k l p m (rwM μ' (p + 1)) L y v) ∧ (∀ y, y < x → ∀ v, Good σ J k l p m (rwM μ' (p + 1)) L y v → ∃ v', M = nI v' ∧ v ≤ v' ∧ v' ≤ 18 * (m + 1))) → ∃ M', fX9_findMost_l82 rc38 rc45 n μ' (nI k) (nI l) (nI p) (nI (cd L)) M (nI x) = fX9_findMost_b142 rc38 rc45 μ' (nI k) (nI l) (nI p) (nI (cd L)) M' ∧ (M' = -6 ∨ ∃ v y, y < 2 ^ J ∧ v ≤ 18 * (m + 1) ∧ M' = nI v ∧ Good σ J k l p m (rwM μ' (p + 1)) L y v) ∧ (∀ y, y < 2 ^ J → ∀ v, Good σ J k l p m (rwM μ' (p + 1)) L y v → ∃ v', M' = nI v' ∧ v ≤ v' ∧ v' ≤ 18 * (m + 1)) := by
  obtain ⟨n1, n2, n3, n4, n5, n6, n7, n8, n9, n10, n11, n12⟩ := id hN
  have h64 := two_pow6 n1
  intro n
  induction n with
  | zero => intro x M h1 h2; omega
  | succ n ih =>
    intro x M h1 h2 hI
    show ∃ M', fX9_findMost_b82 rc38 rc45 (fX9_findMost_l82 rc38 rc45 n) μ' _ _ _ _ _ _ = _ ∧ _
    unfold fX9_findMost_b82 fX9_findMost_b118 fX9_findMost_b134
    rw [hM.2 0 (by omega), n6, shJ J (by omega)]
    by_cases h : x = 2 ^ J
    · rw [if_pos (nI_le (by omega) (by omega))]
      rw [h] at hI
      exact ⟨M, rfl, hI.1, hI.2⟩
    · have hx : x < 2 ^ J := by omega
      have hnl := nb_le x 6 0
      rw [if_neg (nI_ge hx (by omega)), ones_spec μ' (show x < 64 by omega), b_some]
      dsimp only
      rw [show nI x + (1 : Int32) = nI (x + 1) from nI_1 x]
      obtain ⟨hI1, hI2⟩ := hI
      have low : (-6 : Int32) ≤ M := by
        rcases hI1 with q | ⟨v, y, -, q1, q2, -⟩
        · rw [q]; decide
        · rw [q2]
          refine Int32.le_iff_toInt_le.mpr ?_
          rw [nI_toInt (by omega)]
          have : (-6 : Int32).toInt = -6 := rfl
          omega
      have keep : (∀ v, ¬ Good σ J k l p m (rwM μ' (p + 1)) L x v) → ∃ M', fX9_findMost_l82 rc38 rc45 n μ' (nI k) (nI l) (nI p) (nI (cd L)) M (nI (x + 1)) = fX9_findMost_b142 rc38 rc45 μ' (nI k) (nI l) (nI p) (nI (cd L)) M' ∧ (M' = -6 ∨ ∃ v y, y < 2 ^ J ∧ v ≤ 18 * (m + 1) ∧ M' = nI v ∧ Good σ J k l p m (rwM μ' (p + 1)) L y v) ∧ (∀ y, y < 2 ^ J → ∀ v, Good σ J k l p m (rwM μ' (p + 1)) L y v → ∃ v', M' = nI v' ∧ v ≤ v' ∧ v' ≤ 18 * (m + 1)) := by
        intro hno
        refine ih (x + 1) M (by omega) (by omega) ⟨?_, ?_⟩
        · rcases hI1 with q | ⟨v, y, q0, q1, q2, q3⟩
          · exact Or.inl q
          · exact Or.inr ⟨v, y, by omega, q1, q2, q3⟩
        · intro y hy v hg
          by_cases z : y = x
          · subst z; exact absurd hg (hno v)
          · exact hI2 y (by omega) v hg
      by_cases c : nb x 6 0 = k
      · rw [if_pos (by rw [c])]
        obtain ⟨r, r1, r2⟩ := brings_spec hN hJ hP hM hk hl hp hm hD hL hx
        rw [r1, b_some]
        dsimp only
        rcases r2 with ⟨e1, e2⟩ | ⟨v, e1, e2, e3⟩
        · rw [if_pos (by rw [e1]; exact low)]
          exact keep e2
        · have only : ∀ w, Good σ J k l p m (rwM μ' (p + 1)) L x w → w = v := by
            rintro w ⟨w0, g1, -, -, g4, g5⟩
            obtain ⟨v0, f1, -, -, f4, f5⟩ := e3
            rw [f4] at g4
            have := nI_inj (show v0 < 2 ^ 31 by omega) (show w0 < 2 ^ 31 by omega) g4
            omega
          by_cases d : r ≤ M
          · rw [if_pos d]
            refine ih (x + 1) M (by omega) (by omega) ⟨?_, ?_⟩
            · rcases hI1 with q | ⟨v, y, q0, q1, q2, q3⟩
              · exact Or.inl q
              · exact Or.inr ⟨v, y, by omega, q1, q2, q3⟩
            · intro y hy w hg
              by_cases z : y = x
              · subst z
                have hw := only w hg
                rcases hI1 with q | ⟨v', y', q0, q1, q2, q3⟩
                · rw [q, e2] at d
                  have := Int32.le_iff_toInt_le.mp d
                  rw [nI_toInt (by omega)] at this
                  have e6 : (-6 : Int32).toInt = -6 := rfl
                  omega
                · refine ⟨v', q2, ?_, q1⟩
                  rw [q2, e2] at d
                  have := Int32.le_iff_toInt_le.mp d
                  rw [nI_toInt (by omega), nI_toInt (by omega)] at this
                  omega
              · exact hI2 y (by omega) w hg
          · rw [if_neg d]
            refine ih (x + 1) r (by omega) (by omega) ⟨Or.inr ⟨v, x, by omega, e1, e2, e3⟩, ?_⟩
            intro y hy w hg
            by_cases z : y = x
            · subst z
              have hw := only w hg
              exact ⟨v, e2, by omega, e1⟩
            · obtain ⟨v', q1, q2, q3⟩ := hI2 y (by omega) w hg
              refine ⟨v, e2, ?_, e1⟩
              rw [q1, e2] at d
              have d' : ¬ (nI v).toInt ≤ (nI v').toInt := fun q => d (Int32.le_iff_toInt_le.mpr q)
              rw [nI_toInt (by omega), nI_toInt (by omega)] at d'
              omega
      · rw [if_neg (fun q => c (nI_inj (by omega) (by omega) q)), if_pos low]
        refine keep ?_
        rintro v ⟨v0, -, g2, -⟩
        exact c ((ones_J hx n1).trans g2.1)
/-- one entry of a row, from the row behind it -/
theorem entry {σ μ : St} {J P S C k l m : Nat} (hN : IvN σ μ J P S C) (hmP : m < P) {p : Nat} (hpm : p = P - 1 - m) (hl : l ≤ 4) {a a' : Nat → Int32} (hD : DS σ P J k l m a) {L : Nat → Nat} (hL : ∀ j, j < 6 → L j ≤ l) {M : Int32} (ha : a' (cd L) = M) (h1 : M = -6 ∨ ∃ v y, y < 2 ^ J ∧ v ≤ 18 * (m + 1) ∧ M = nI v ∧ Good σ J k l p m a L y v) (h2 : ∀ y, y < 2 ^ J → ∀ v, Good σ J k l p m a L y v → ∃ v', M = nI v' ∧ v ≤ v' ∧ v' ≤ 18 * (m + 1)) : DSL σ P J k l (m + 1) a' L := by
  obtain ⟨n1, n2, n3, n4, n5, n6, n7, n8, n9, n10, n11, n12⟩ := id hN
  unfold DSL
  rw [ha]
  refine ⟨?_, ?_, ?_⟩
  · rcases h1 with q | ⟨v, y, q0, q1, q2, q3⟩
    · exact Or.inl q
    · exact Or.inr ⟨v, q1, q2⟩
  · intro X hX hT
    obtain ⟨x1, x2⟩ := hX.1 m (by omega)
    rw [← hpm] at x1 x2
    have hld : ∀ j, j < 6 → L j + bt (X p) j ≤ l := by
      intro j hj
      have := hX.2 j hj
      simp only [tS] at this
      rw [← hpm] at this
      omega
    have hcp : Cp σ P J k l m (fun j => L j + bt (X p) j) X := by
      refine ⟨fun i hi => hX.1 i (by omega), fun j hj => ?_⟩
      have := hX.2 j hj
      simp only [tS] at this
      rw [← hpm] at this
      show L j + bt (X p) j + _ ≤ l
      omega
    have h64 : X p < 2 ^ J := x1
    have hsum : sN (fun j => L j + bt (X p) j) 6 = k * (P - m) := by
      rw [sN_add, hT]
      have e1 : sN (fun j => bt (X p) j) 6 = k := by
        have := ones_J h64 n1
        rw [nb_sN] at this
        rw [← x2.1, ← this]
        exact sN_congr 6 (fun i _ => by rw [Nat.zero_add])
      rw [e1, show P - m = (P - (m + 1)) + 1 by omega, Nat.mul_succ]
    obtain ⟨v, v1, v2, v3⟩ := (hD (fun j => L j + bt (X p) j) hld).2.1 X hcp hsum
    obtain ⟨v', w1, w2, w3⟩ := h2 (X p) x1 (v + bo σ J p (X p)) ⟨v, v1, x2, hld, v2, rfl⟩
    refine ⟨v', w3, w1, ?_⟩
    simp only [tS]
    rw [← hpm]
    omega
  · intro v hv hq
    rcases h1 with q | ⟨v', y, q0, q1, q2, v0, g1, g2, g3, g4, g5⟩
    · rw [q] at hq
      exact absurd hq.symm (nI_nem6 (show v < 2 ^ 31 by omega))
    · rw [q2] at hq
      have hvv := nI_inj (show v' < 2 ^ 31 by omega) (show v < 2 ^ 31 by omega) hq
      obtain ⟨X, x1, x2⟩ := (hD (fun j => L j + bt y j) g3).2.2 v0 g1 g4
      have hne : ∀ i, i < m → ¬ P - 1 - i = p := fun i hi => by omega
      refine ⟨up X p y, ⟨?_, ?_⟩, ?_⟩
      · intro i hi
        by_cases z : i = m
        · subst z
          rw [← hpm, up_s]
          exact ⟨q0, g2⟩
        · rw [up_n _ _ (hne i (by omega))]
          exact x1.1 i (by omega)
      · intro j hj
        simp only [tS]
        rw [← hpm, up_s, tS_congr (g := fun q => bt (X q) j) m (fun i hi => by rw [up_n _ _ (hne i hi)])]
        have := x1.2 j hj
        have e : (fun j => L j + bt y j) j = L j + bt y j := rfl
        omega
      · simp only [tS]
        rw [← hpm, up_s, tS_congr (g := fun q => bo σ J q (X q)) m (fun i hi => by rw [up_n _ _ (hne i hi)]), x2]
        omega
