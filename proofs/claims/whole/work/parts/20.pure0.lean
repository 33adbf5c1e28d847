/-! ===== pure: words on numbers, the invariant between the class's state and the reference's ===== -/
def bI (c : Prop) [Decidable c] : Int32 := if c then 1 else 0
theorem bI_0 {c : Prop} [Decidable c] : bI c = 0 ↔ ¬ c := by
  unfold bI
  by_cases h : c
  · rw [if_pos h]; exact ⟨fun q => absurd q (by decide), fun q => absurd h q⟩
  · rw [if_neg h]; exact ⟨fun _ => h, fun _ => rfl⟩
theorem bI_01 {c : Prop} [Decidable c] : bI c = 0 ∨ bI c = 1 := by
  unfold bI
  by_cases h : c
  · rw [if_pos h]; exact Or.inr rfl
  · rw [if_neg h]; exact Or.inl rfl
theorem bI_t {c : Prop} [Decidable c] (h : c) : bI c = 1 := by unfold bI; rw [if_pos h]
theorem bI_f {c : Prop} [Decidable c] (h : ¬ c) : bI c = 0 := by unfold bI; rw [if_neg h]
theorem bI_iff {c d : Prop} [Decidable c] [Decidable d] (h : c ↔ d) : bI c = bI d := by
  by_cases hc : c
  · rw [bI_t hc, bI_t (h.mp hc)]
  · rw [bI_f hc, bI_f (fun q => hc (h.mpr q))]
theorem bI_ne0 {c : Prop} [Decidable c] {α : Type} {x y : α} : (if bI c = 0 then x else y) = if c then y else x := by
  by_cases h : c
  · rw [if_neg (fun q => bI_0.mp q h), if_pos h]
  · rw [if_pos (bI_0.mpr h), if_neg h]
theorem bI_guard {c : Prop} [Decidable c] {α : Type} {x : Option α} : (if bI c = 0 ∨ bI c = 1 then x else none) = x := if_pos bI_01
theorem within_spec (σ : St) (x a b : Int32) : fX8_within σ x a b = some (bI (a.toInt ≤ x.toInt ∧ x.toInt ≤ b.toInt), σ) := by
  unfold fX8_within
  by_cases h1 : x < a
  · rw [if_pos h1, bI_f]
    have := Int32.lt_iff_toInt_lt.mp h1
    omega
  · rw [if_neg h1]
    have h1' : ¬ x.toInt < a.toInt := fun q => h1 (Int32.lt_iff_toInt_lt.mpr q)
    by_cases h2 : b < x
    · rw [if_pos h2, bI_f]
      have := Int32.lt_iff_toInt_lt.mp h2
      omega
    · rw [if_neg h2, bI_t]
      have h2' : ¬ b.toInt < x.toInt := fun q => h2 (Int32.lt_iff_toInt_lt.mpr q)
      omega
theorem in_spec (σ : St) (x a b : Int64) : fX9_in σ x a b = some (bI (a.toInt ≤ x.toInt ∧ x.toInt ≤ b.toInt), σ) := by
  unfold fX9_in
  by_cases h1 : x < a
  · rw [if_pos ((lg_cmp_lt x a).mpr h1), bI_f]
    have := Int64.lt_iff_toInt_lt.mp h1
    omega
  · rw [if_neg (fun q => h1 ((lg_cmp_lt x a).mp q))]
    have h1' : ¬ x.toInt < a.toInt := fun q => h1 (Int64.lt_iff_toInt_lt.mpr q)
    by_cases h2 : b < x
    · rw [if_pos ((lg_cmp_gt x b).mpr h2), bI_f]
      have := Int64.lt_iff_toInt_lt.mp h2
      omega
    · rw [if_neg (fun q => h2 ((lg_cmp_gt x b).mp q)), bI_t]
      have h2' : ¬ b.toInt < x.toInt := fun q => h2 (Int64.lt_iff_toInt_lt.mpr q)
      omega
theorem i2l_toInt (x : Int32) : x.toInt64.toInt = x.toInt := by simp
theorem nIm1 {n : Nat} (h : n < 2 ^ 30) : (nI n - 1).toInt = (n : Int) - 1 := pk_sub_toInt (a := n) (b := 1) h (by omega)
theorem has_spec {σ : St} {J : Nat} (hJ : σ.2.1 0 = nI J) (h6 : J ≤ 6) (x : Int32) : fX0_has σ x = some (bI (0 ≤ x.toInt ∧ x.toInt < J), σ) := by
  unfold fX0_has
  rw [hJ]
  have e := nI_toInt (n := J) (by omega)
  by_cases h1 : x < 0
  · have := Int32.lt_iff_toInt_lt.mp h1
    rw [if_pos h1, bI_f (by intro q; have : (0 : Int32).toInt = 0 := rfl; omega)]
  · rw [if_neg h1]
    have h1' : ¬ x.toInt < (0 : Int32).toInt := fun q => h1 (Int32.lt_iff_toInt_lt.mpr q)
    have z : (0 : Int32).toInt = 0 := rfl
    by_cases h2 : nI J ≤ x
    · have := Int32.le_iff_toInt_le.mp h2
      rw [if_pos h2, bI_f (by omega)]
    · have h2' : ¬ (nI J).toInt ≤ x.toInt := fun q => h2 (Int32.le_iff_toInt_le.mpr q)
      rw [if_neg h2, bI_t (by omega)]
theorem hasP_spec {σ : St} {J : Nat} (hJ : σ.2.1 1 = nI J) (h6 : J ≤ 6) (x : Int32) : fX4_has σ x = some (bI (0 ≤ x.toInt ∧ x.toInt < J), σ) := by
  unfold fX4_has
  rw [hJ]
  have e := nI_toInt (n := J) (by omega)
  by_cases h1 : x < 0
  · have := Int32.lt_iff_toInt_lt.mp h1
    rw [if_pos h1, bI_f (by intro q; have : (0 : Int32).toInt = 0 := rfl; omega)]
  · rw [if_neg h1]
    have h1' : ¬ x.toInt < (0 : Int32).toInt := fun q => h1 (Int32.lt_iff_toInt_lt.mpr q)
    have z : (0 : Int32).toInt = 0 := rfl
    by_cases h2 : nI J ≤ x
    · have := Int32.le_iff_toInt_le.mp h2
      rw [if_pos h2, bI_f (by omega)]
    · have h2' : ¬ (nI J).toInt ≤ x.toInt := fun q => h2 (Int32.le_iff_toInt_le.mpr q)
      rw [if_neg h2, bI_t (by omega)]
theorem isJ_spec {μ : St} {J : Nat} (hJ : μ.2.1 0 = nI J) (h6 : J ≤ 6) (x : Int32) : fX9_isJudge μ x = some (bI (0 ≤ x.toInt ∧ x.toInt < J), μ) := by
  unfold fX9_isJudge
  rw [in_spec, hJ]
  show (if _ ∨ _ then _ else _) = _
  rw [bI_guard]
  congr 2
  refine bI_iff ?_
  rw [i2l_toInt, i2l_toInt, nIm1 (by omega)]
  have z : (0 : Int64).toInt = 0 := rfl
  omega
theorem isP_spec {μ : St} {J : Nat} (hJ : μ.2.1 1 = nI J) (h6 : J ≤ 6) (x : Int32) : fX9_isPaper μ x = some (bI (0 ≤ x.toInt ∧ x.toInt < J), μ) := by
  unfold fX9_isPaper
  rw [in_spec, hJ]
  show (if _ ∨ _ then _ else _) = _
  rw [bI_guard]
  congr 2
  refine bI_iff ?_
  rw [i2l_toInt, i2l_toInt, nIm1 (by omega)]
  have z : (0 : Int64).toInt = 0 := rfl
  omega
theorem nI_ex {x : Int32} {N : Nat} (h : 0 ≤ x.toInt ∧ x.toInt < N) (hN : N < 2 ^ 31) : ∃ j, j < N ∧ x = nI j := by
  obtain ⟨j, h1, h2⟩ := vp_in_of (vp_in_iff.mpr h) hN
  exact ⟨j, h1, h2⟩
theorem nI_inj {a b : Nat} (ha : a < 2 ^ 31) (hb : b < 2 ^ 31) (h : nI a = nI b) : a = b := (nI_eq ha hb).mp h
theorem at6 (j p : Nat) : nI j * (6 : Int32) + nI p = nI (6 * j + p) := by
  show nI j * nI 6 + nI p = _
  rw [pk_mul, nI_add, Nat.mul_comm]
theorem at6' (j p : Nat) : (6 : Int32) * nI j + nI p = nI (6 * j + p) := by
  show nI 6 * nI j + nI p = _
  rw [pk_mul, nI_add]
theorem m6 : (-6 : Int32).toInt = -6 := rfl
theorem nI_nem6 {n : Nat} (h : n < 2 ^ 31) : ¬ nI n = -6 := fun q => by
  have h1 := nI_toInt h
  rw [q] at h1
  have := m6
  omega
def inR (x : Int32) (a b : Int) : Prop := a ≤ x.toInt ∧ x.toInt ≤ b
def IvN (σ μ : St) (J P S C : Nat) : Prop := J ≤ 6 ∧ P ≤ 6 ∧ S ≤ 40 ∧ C ≤ 10 ∧ σ.2.1 0 = nI J ∧ μ.2.1 0 = nI J ∧ σ.2.1 1 = nI P ∧ μ.2.1 1 = nI P ∧ σ.2.1 2 = nI S ∧ μ.2.1 2 = nI S ∧ σ.2.1 3 = nI C ∧ μ.2.1 3 = nI C
def IvJ (σ μ : St) (J : Nat) : Prop := (∀ i, i < J → σ.1 10 i = μ.1 1 i ∧ inR (μ.1 1 i) (-2) 2) ∧ (∀ i, i < J → σ.1 11 i = μ.1 2 i ∧ inR (μ.1 2 i) 0 2) ∧ (∀ i, i < 6 → σ.1 12 i = μ.1 3 i ∧ inR (μ.1 3 i) 0 63) ∧ (∀ i, i < 36 → σ.1 13 i = μ.1 4 i ∧ inR (μ.1 4 i) (-1) 1)
def IvP (σ μ : St) (J P : Nat) : Prop := (∀ i, i < P → σ.1 14 i = μ.1 5 i ∧ inR (μ.1 5 i) 0 5) ∧ (∀ i, i < P → σ.1 15 i = μ.1 6 i ∧ (μ.1 6 i = -6 ∨ ∃ w, w < J ∧ μ.1 6 i = nI w)) ∧ (∀ i, i < 6 → σ.1 16 i = μ.1 7 i ∧ inR (μ.1 7 i) 0 63) ∧ (∀ i, i < P → σ.1 17 i = μ.1 8 i ∧ (μ.1 8 i = -6 ∨ inR (μ.1 8 i) 0 9)) ∧ (∀ i, i < 36 → σ.1 18 i = μ.1 10 i ∧ inR (μ.1 10 i) 0 3)
def IvM (σ μ : St) (J P : Nat) : Prop := ∀ j p, j < 6 → p < 6 → (j < J → σ.1 19 (6 * j + p) = μ.1 9 (6 * j + p) ∧ (μ.1 9 (6 * j + p) = -6 ∨ (p < P ∧ inR (μ.1 9 (6 * j + p)) 0 5 ∧ ¬ μ.1 6 p = nI j))) ∧ (J ≤ j → σ.1 19 (6 * j + p) = -6)
def IvR (σ μ : St) (S C : Nat) : Prop := (∀ i, i < S → σ.1 21 i = μ.1 11 i) ∧ (∀ i, i < C → σ.1 22 i = μ.1 12 i ∧ (μ.1 12 i = 97 ∨ μ.1 12 i = 109 ∨ μ.1 12 i = 108 ∨ μ.1 12 i = 103)) ∧ (∀ i, i < C → σ.1 23 i = μ.1 13 i ∧ inR (μ.1 13 i) 0 99) ∧ (∀ i, i < C → σ.1 24 i = μ.1 14 i ∧ inR (μ.1 14 i) 1 4)
def Inv (σ μ : St) : Prop := ∃ J P S C : Nat, IvN σ μ J P S C ∧ IvJ σ μ J ∧ IvP σ μ J P ∧ IvM σ μ J P ∧ IvR σ μ S C
theorem inR0 {a b : Int} (h1 : a ≤ 0) (h2 : 0 ≤ b) : inR (0 : Int32) a b := ⟨h1, h2⟩
theorem Inv_start (g : Nat → Int32) (hg : ∀ i, i < 36 → g i = -6) : Inv (st0 g) sm0 := by
  refine ⟨0, 0, 0, 0, ?_, ?_, ?_, ?_, ?_⟩
  · exact ⟨by omega, by omega, by omega, by omega, rfl, rfl, rfl, rfl, rfl, rfl, rfl, rfl⟩
  · refine ⟨fun i h => absurd h (by omega), fun i h => absurd h (by omega), fun i _ => ⟨rfl, inR0 (by decide) (by decide)⟩, fun i _ => ⟨rfl, inR0 (by decide) (by decide)⟩⟩
  · refine ⟨fun i h => absurd h (by omega), fun i h => absurd h (by omega), fun i _ => ⟨rfl, inR0 (by decide) (by decide)⟩, fun i h => absurd h (by omega), fun i _ => ⟨rfl, inR0 (by decide) (by decide)⟩⟩
  · intro j p hj hp
    exact ⟨fun h => absurd h (by omega), fun _ => hg _ (by omega)⟩
  · exact ⟨fun i h => absurd h (by omega), fun i h => absurd h (by omega), fun i h => absurd h (by omega), fun i h => absurd h (by omega)⟩
def sameC (σ σ' : St) : Prop := (∀ k, (10 ≤ k ∧ k ≤ 19) ∨ (21 ≤ k ∧ k ≤ 24) → σ'.1 k = σ.1 k) ∧ ∀ k, k ≤ 3 → σ'.2.1 k = σ.2.1 k
def sameM (μ μ' : St) : Prop := (∀ k, 1 ≤ k ∧ k ≤ 14 → μ'.1 k = μ.1 k) ∧ ∀ k, k ≤ 3 → μ'.2.1 k = μ.2.1 k
theorem sameC.rf (σ : St) : sameC σ σ := ⟨fun _ _ => rfl, fun _ _ => rfl⟩
theorem sameM.rf (μ : St) : sameM μ μ := ⟨fun _ _ => rfl, fun _ _ => rfl⟩
theorem sameC.tr {a b c : St} (h1 : sameC a b) (h2 : sameC b c) : sameC a c := ⟨fun k h => (h2.1 k h).trans (h1.1 k h), fun k h => (h2.2 k h).trans (h1.2 k h)⟩
theorem sameM.tr {a b c : St} (h1 : sameM a b) (h2 : sameM b c) : sameM a c := ⟨fun k h => (h2.1 k h).trans (h1.1 k h), fun k h => (h2.2 k h).trans (h1.2 k h)⟩
theorem IvN.same {σ μ σ' μ' : St} {J P S C : Nat} (h : IvN σ μ J P S C) (h1 : sameC σ σ') (h2 : sameM μ μ') : IvN σ' μ' J P S C := by
  unfold IvN at *
  rw [h1.2 0 (by omega), h1.2 1 (by omega), h1.2 2 (by omega), h1.2 3 (by omega), h2.2 0 (by omega), h2.2 1 (by omega), h2.2 2 (by omega), h2.2 3 (by omega)]
  exact h
theorem IvJ.same {σ μ σ' μ' : St} {J : Nat} (h : IvJ σ μ J) (h1 : sameC σ σ') (h2 : sameM μ μ') : IvJ σ' μ' J := by
  unfold IvJ at *
  rw [h1.1 10 (by omega), h1.1 11 (by omega), h1.1 12 (by omega), h1.1 13 (by omega), h2.1 1 (by omega), h2.1 2 (by omega), h2.1 3 (by omega), h2.1 4 (by omega)]
  exact h
theorem IvP.same {σ μ σ' μ' : St} {J P : Nat} (h : IvP σ μ J P) (h1 : sameC σ σ') (h2 : sameM μ μ') : IvP σ' μ' J P := by
  unfold IvP at *
  rw [h1.1 14 (by omega), h1.1 15 (by omega), h1.1 16 (by omega), h1.1 17 (by omega), h1.1 18 (by omega), h2.1 5 (by omega), h2.1 6 (by omega), h2.1 7 (by omega), h2.1 8 (by omega), h2.1 10 (by omega)]
  exact h
theorem IvM.same {σ μ σ' μ' : St} {J P : Nat} (h : IvM σ μ J P) (h1 : sameC σ σ') (h2 : sameM μ μ') : IvM σ' μ' J P := by
  unfold IvM at *
  rw [h1.1 19 (by omega), h2.1 9 (by omega), h2.1 6 (by omega)]
  exact h
theorem IvR.same {σ μ σ' μ' : St} {S C : Nat} (h : IvR σ μ S C) (h1 : sameC σ σ') (h2 : sameM μ μ') : IvR σ' μ' S C := by
  unfold IvR at *
  rw [h1.1 21 (by omega), h1.1 22 (by omega), h1.1 23 (by omega), h1.1 24 (by omega), h2.1 11 (by omega), h2.1 12 (by omega), h2.1 13 (by omega), h2.1 14 (by omega)]
  exact h
theorem Inv.same {σ μ σ' μ' : St} (h : Inv σ μ) (h1 : sameC σ σ') (h2 : sameM μ μ') : Inv σ' μ' := by
  obtain ⟨J, P, S, C, a, b, c, d, e⟩ := h
  exact ⟨J, P, S, C, a.same h1 h2, b.same h1 h2, c.same h1 h2, d.same h1 h2, e.same h1 h2⟩
theorem upd_all {f g : Nat → Int32} {Q : Int32 → Prop} {N i : Nat} {v : Int32} (h : ∀ j, j < N → f j = g j ∧ Q (g j)) (hv : Q v) : ∀ j, j < N → upd f i v j = upd g i v j ∧ Q (upd g i v j) := by
  intro j hj
  by_cases hji : j = i
  · subst hji
    rw [pk_us, pk_us]
    exact ⟨rfl, hv⟩
  · rw [pk_un hji, pk_un hji]
    exact h j hj
theorem upd_last {f g : Nat → Int32} {Q : Int32 → Prop} {N : Nat} {v : Int32} (h : ∀ j, j < N → f j = g j ∧ Q (g j)) (hv : Q v) : ∀ j, j < N + 1 → upd f N v j = upd g N v j ∧ Q (upd g N v j) := by
  intro j hj
  by_cases hji : j = N
  · subst hji
    rw [pk_us, pk_us]
    exact ⟨rfl, hv⟩
  · rw [pk_un hji, pk_un hji]
    exact h j (by omega)
