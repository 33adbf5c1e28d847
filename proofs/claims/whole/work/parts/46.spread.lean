/-! ===== match: the class's spreading of chains ===== -/
theorem fill27_l (x : Int32) : ∀ (n k : Nat) (σ : St), k ≤ 6 → 6 - k < n → (∀ v, v < k → σ.1 27 v = x) → ∃ σ', fJ7_fill_53178_27_l5 n σ x (nI k) 6 = some ((), σ') ∧ (∀ v, v < 6 → σ'.1 27 v = x) ∧ (∀ a, ¬ a = 27 → σ'.1 a = σ.1 a) ∧ σ'.2 = σ.2 := by
  intro n
  induction n with
  | zero => intro k σ h1 h2; omega
  | succ n ih =>
    intro k σ h1 h2 hz
    show ∃ σ', fJ7_fill_53178_27_b5 (fJ7_fill_53178_27_l5 n) σ x (nI k) 6 = some ((), σ') ∧ _
    unfold fJ7_fill_53178_27_b5
    by_cases h : k = 6
    · subst h
      rw [if_pos (show (6 : Int32) ≤ nI 6 by decide)]
      exact ⟨σ, rfl, hz, fun _ _ => rfl, rfl⟩
    · rw [if_neg (show ¬ (6 : Int32) ≤ nI k from nI_ge (b := 6) (by omega) (by omega)), if_pos (ib_nI (show k < 6 by omega) (by omega)), nI_clamp (n := k) (by omega), show nI k + (1 : Int32) = nI (k + 1) from nI_1 k]
      obtain ⟨σ', e1, e2, e3, e4⟩ := ih (k + 1) (uA σ 27 k x) (by omega) (by omega) (by
        intro v hv
        show upd (σ.1 27) k x v = x
        by_cases e : v = k
        · subst e; exact pk_us
        · rw [pk_un e]; exact hz v (by omega))
      exact ⟨σ', e1, e2, fun a ha => (e3 a ha).trans (uA_ne σ k x ha), e4⟩
theorem fill27_spec (σ : St) (x : Int32) : ∃ σ', fJ7_fill_53178_27 σ x = some ((), σ') ∧ (∀ v, v < 6 → σ'.1 27 v = x) ∧ (∀ a, ¬ a = 27 → σ'.1 a = σ.1 a) ∧ σ'.2 = σ.2 := fill27_l x gF 0 σ (by omega) (by simp [gF]) (fun v h => absurd h (by omega))
theorem fill28_l (x : Int32) : ∀ (n k : Nat) (σ : St), k ≤ 6 → 6 - k < n → (∀ v, v < k → σ.1 28 v = x) → ∃ σ', fJ7_fill_53178_28_l5 n σ x (nI k) 6 = some ((), σ') ∧ (∀ v, v < 6 → σ'.1 28 v = x) ∧ (∀ a, ¬ a = 28 → σ'.1 a = σ.1 a) ∧ σ'.2 = σ.2 := by
  intro n
  induction n with
  | zero => intro k σ h1 h2; omega
  | succ n ih =>
    intro k σ h1 h2 hz
    show ∃ σ', fJ7_fill_53178_28_b5 (fJ7_fill_53178_28_l5 n) σ x (nI k) 6 = some ((), σ') ∧ _
    unfold fJ7_fill_53178_28_b5
    by_cases h : k = 6
    · subst h
      rw [if_pos (show (6 : Int32) ≤ nI 6 by decide)]
      exact ⟨σ, rfl, hz, fun _ _ => rfl, rfl⟩
    · rw [if_neg (show ¬ (6 : Int32) ≤ nI k from nI_ge (b := 6) (by omega) (by omega)), if_pos (ib_nI (show k < 6 by omega) (by omega)), nI_clamp (n := k) (by omega), show nI k + (1 : Int32) = nI (k + 1) from nI_1 k]
      obtain ⟨σ', e1, e2, e3, e4⟩ := ih (k + 1) (uA σ 28 k x) (by omega) (by omega) (by
        intro v hv
        show upd (σ.1 28) k x v = x
        by_cases e : v = k
        · subst e; exact pk_us
        · rw [pk_un e]; exact hz v (by omega))
      exact ⟨σ', e1, e2, fun a ha => (e3 a ha).trans (uA_ne σ k x ha), e4⟩
theorem fill28_spec (σ : St) (x : Int32) : ∃ σ', fJ7_fill_53178_28 σ x = some ((), σ') ∧ (∀ v, v < 6 → σ'.1 28 v = x) ∧ (∀ a, ¬ a = 28 → σ'.1 a = σ.1 a) ∧ σ'.2 = σ.2 := fill28_l x gF 0 σ (by omega) (by simp [gF]) (fun v h => absurd h (by omega))
theorem fill29_l (x : Int32) : ∀ (n k : Nat) (σ : St), k ≤ 6 → 6 - k < n → (∀ v, v < k → σ.1 29 v = x) → ∃ σ', fJ7_fill_53178_29_l5 n σ x (nI k) 6 = some ((), σ') ∧ (∀ v, v < 6 → σ'.1 29 v = x) ∧ (∀ a, ¬ a = 29 → σ'.1 a = σ.1 a) ∧ σ'.2 = σ.2 := by
  intro n
  induction n with
  | zero => intro k σ h1 h2; omega
  | succ n ih =>
    intro k σ h1 h2 hz
    show ∃ σ', fJ7_fill_53178_29_b5 (fJ7_fill_53178_29_l5 n) σ x (nI k) 6 = some ((), σ') ∧ _
    unfold fJ7_fill_53178_29_b5
    by_cases h : k = 6
    · subst h
      rw [if_pos (show (6 : Int32) ≤ nI 6 by decide)]
      exact ⟨σ, rfl, hz, fun _ _ => rfl, rfl⟩
    · rw [if_neg (show ¬ (6 : Int32) ≤ nI k from nI_ge (b := 6) (by omega) (by omega)), if_pos (ib_nI (show k < 6 by omega) (by omega)), nI_clamp (n := k) (by omega), show nI k + (1 : Int32) = nI (k + 1) from nI_1 k]
      obtain ⟨σ', e1, e2, e3, e4⟩ := ih (k + 1) (uA σ 29 k x) (by omega) (by omega) (by
        intro v hv
        show upd (σ.1 29) k x v = x
        by_cases e : v = k
        · subst e; exact pk_us
        · rw [pk_un e]; exact hz v (by omega))
      exact ⟨σ', e1, e2, fun a ha => (e3 a ha).trans (uA_ne σ k x ha), e4⟩
theorem fill29_spec (σ : St) (x : Int32) : ∃ σ', fJ7_fill_53178_29 σ x = some ((), σ') ∧ (∀ v, v < 6 → σ'.1 29 v = x) ∧ (∀ a, ¬ a = 29 → σ'.1 a = σ.1 a) ∧ σ'.2 = σ.2 := fill29_l x gF 0 σ (by omega) (by simp [gF]) (fun v h => absurd h (by omega))
theorem fill32_l (x : Int32) : ∀ (n k : Nat) (σ : St), k ≤ 6 → 6 - k < n → (∀ v, v < k → σ.1 32 v = x) → ∃ σ', fJ7_fill_53178_32_l5 n σ x (nI k) 6 = some ((), σ') ∧ (∀ v, v < 6 → σ'.1 32 v = x) ∧ (∀ a, ¬ a = 32 → σ'.1 a = σ.1 a) ∧ σ'.2 = σ.2 := by
  intro n
  induction n with
  | zero => intro k σ h1 h2; omega
  | succ n ih =>
    intro k σ h1 h2 hz
    show ∃ σ', fJ7_fill_53178_32_b5 (fJ7_fill_53178_32_l5 n) σ x (nI k) 6 = some ((), σ') ∧ _
    unfold fJ7_fill_53178_32_b5
    by_cases h : k = 6
    · subst h
      rw [if_pos (show (6 : Int32) ≤ nI 6 by decide)]
      exact ⟨σ, rfl, hz, fun _ _ => rfl, rfl⟩
    · rw [if_neg (show ¬ (6 : Int32) ≤ nI k from nI_ge (b := 6) (by omega) (by omega)), if_pos (ib_nI (show k < 6 by omega) (by omega)), nI_clamp (n := k) (by omega), show nI k + (1 : Int32) = nI (k + 1) from nI_1 k]
      obtain ⟨σ', e1, e2, e3, e4⟩ := ih (k + 1) (uA σ 32 k x) (by omega) (by omega) (by
        intro v hv
        show upd (σ.1 32) k x v = x
        by_cases e : v = k
        · subst e; exact pk_us
        · rw [pk_un e]; exact hz v (by omega))
      exact ⟨σ', e1, e2, fun a ha => (e3 a ha).trans (uA_ne σ k x ha), e4⟩
theorem fill32_spec (σ : St) (x : Int32) : ∃ σ', fJ7_fill_53178_32 σ x = some ((), σ') ∧ (∀ v, v < 6 → σ'.1 32 v = x) ∧ (∀ a, ¬ a = 32 → σ'.1 a = σ.1 a) ∧ σ'.2 = σ.2 := fill32_l x gF 0 σ (by omega) (by simp [gF]) (fun v h => absurd h (by omega))
theorem fill33_l (x : Int32) : ∀ (n k : Nat) (σ : St), k ≤ 6 → 6 - k < n → (∀ v, v < k → σ.1 33 v = x) → ∃ σ', fJ7_fill_53178_33_l5 n σ x (nI k) 6 = some ((), σ') ∧ (∀ v, v < 6 → σ'.1 33 v = x) ∧ (∀ a, ¬ a = 33 → σ'.1 a = σ.1 a) ∧ σ'.2 = σ.2 := by
  intro n
  induction n with
  | zero => intro k σ h1 h2; omega
  | succ n ih =>
    intro k σ h1 h2 hz
    show ∃ σ', fJ7_fill_53178_33_b5 (fJ7_fill_53178_33_l5 n) σ x (nI k) 6 = some ((), σ') ∧ _
    unfold fJ7_fill_53178_33_b5
    by_cases h : k = 6
    · subst h
      rw [if_pos (show (6 : Int32) ≤ nI 6 by decide)]
      exact ⟨σ, rfl, hz, fun _ _ => rfl, rfl⟩
    · rw [if_neg (show ¬ (6 : Int32) ≤ nI k from nI_ge (b := 6) (by omega) (by omega)), if_pos (ib_nI (show k < 6 by omega) (by omega)), nI_clamp (n := k) (by omega), show nI k + (1 : Int32) = nI (k + 1) from nI_1 k]
      obtain ⟨σ', e1, e2, e3, e4⟩ := ih (k + 1) (uA σ 33 k x) (by omega) (by omega) (by
        intro v hv
        show upd (σ.1 33) k x v = x
        by_cases e : v = k
        · subst e; exact pk_us
        · rw [pk_un e]; exact hz v (by omega))
      exact ⟨σ', e1, e2, fun a ha => (e3 a ha).trans (uA_ne σ k x ha), e4⟩
theorem fill33_spec (σ : St) (x : Int32) : ∃ σ', fJ7_fill_53178_33 σ x = some ((), σ') ∧ (∀ v, v < 6 → σ'.1 33 v = x) ∧ (∀ a, ¬ a = 33 → σ'.1 a = σ.1 a) ∧ σ'.2 = σ.2 := fill33_l x gF 0 σ (by omega) (by simp [gF]) (fun v h => absurd h (by omega))
theorem fillL_l (x : Int64) : ∀ (n k : Nat) (σ : St), k ≤ 6 → 6 - k < n → (∀ v, v < k → σ.2.2 31 v = x) → ∃ σ', fJ7_fill_d0a16_31_l6 n σ x (nI k) 6 = some ((), σ') ∧ (∀ v, v < 6 → σ'.2.2 31 v = x) ∧ σ'.1 = σ.1 ∧ σ'.2.1 = σ.2.1 ∧ σ'.2.2 30 = σ.2.2 30 := by
  intro n
  induction n with
  | zero => intro k σ h1 h2; omega
  | succ n ih =>
    intro k σ h1 h2 hz
    show ∃ σ', fJ7_fill_d0a16_31_b6 (fJ7_fill_d0a16_31_l6 n) σ x (nI k) 6 = some ((), σ') ∧ _
    unfold fJ7_fill_d0a16_31_b6
    by_cases h : k = 6
    · subst h
      rw [if_pos (show (6 : Int32) ≤ nI 6 by decide)]
      exact ⟨σ, rfl, hz, rfl, rfl, rfl⟩
    · rw [if_neg (show ¬ (6 : Int32) ≤ nI k from nI_ge (b := 6) (by omega) (by omega)), if_pos (ib_nI (show k < 6 by omega) (by omega)), nI_clamp (n := k) (by omega), show nI k + (1 : Int32) = nI (k + 1) from nI_1 k]
      obtain ⟨σ', e1, e2, e3, e4, e5⟩ := ih (k + 1) (uL σ 31 k x) (by omega) (by omega) (by
        intro v hv
        show vp_updL (σ.2.2 31) k x v = x
        by_cases e : v = k
        · subst e; exact pk_uLs
        · rw [pk_uLn e]; exact hz v (by omega))
      exact ⟨σ', e1, e2, e3, e4, e5⟩
theorem fillL_spec (σ : St) (x : Int64) : ∃ σ', fJ7_fill_d0a16_31 σ x = some ((), σ') ∧ (∀ v, v < 6 → σ'.2.2 31 v = x) ∧ σ'.1 = σ.1 ∧ σ'.2.1 = σ.2.1 ∧ σ'.2.2 30 = σ.2.2 30 := fillL_l x gF 0 σ (by omega) (by simp [gF]) (fun v h => absurd h (by omega))
def bdv (σ : St) (p j : Nat) : Nat := (σ.1 18 (6 * j + p)).toNatClampNeg
def plc (p j : Nat) : Nat := 2 ^ ((5 - p) * 6 + j)
def wI (σ : St) (p j : Nat) : Int := (bdv σ p j : Int) * 68719476736 - (plc p j : Int)
def al (σ : St) (p j : Nat) : Prop := ¬ σ.1 15 p = nI j ∧ ¬ tI σ j p = -1
theorem bdv_val {σ μ : St} {J P : Nat} (hP : IvP σ μ J P) {p j : Nat} (hp : p < 6) (hj : j < 6) : bdv σ p j ≤ 3 ∧ σ.1 18 (6 * j + p) = nI (bdv σ p j) := by
  obtain ⟨h1, h2⟩ := hP.2.2.2.2 (6 * j + p) (by omega)
  obtain ⟨k, hk1, hk2⟩ := nI_rng (n := 3) h2 (by omega)
  unfold bdv
  rw [h1, hk2, nI_clamp (by omega)]
  exact ⟨by omega, rfl⟩
theorem plc_le : ∀ p, p < 6 → ∀ j, j < 6 → plc p j < 68719476736 := by decide +kernel
theorem wI_rng {σ μ : St} {J P : Nat} (hP : IvP σ μ J P) {p j : Nat} (hp : p < 6) (hj : j < 6) : -274877906944 ≤ wI σ p j ∧ wI σ p j ≤ 274877906944 := by
  have h1 := (bdv_val hP hp hj).1
  have h2 := plc_le p hp j hj
  unfold wI
  omega
theorem sh36 : ∀ b, b < 4 → ((nI b).toInt64 <<< ((36 : Int32).toInt64 &&& 63)) = lN (b * 68719476736) := by decide +kernel
theorem sh1 : ∀ p, p < 6 → ∀ j, j < 6 → ((1 : Int64) <<< ((((5 : Int32) - nI p) * 6 + nI j).toInt64 &&& 63)) = lN (plc p j) := by decide +kernel
theorem weight_spec {σ σ' μ : St} {J P : Nat} (hs : sameC σ σ') (hP : IvP σ μ J P) {p j : Nat} (hp : p < 6) (hj : j < 6) : ∃ W, fX2_weight σ' (nI j) (nI p) = some (W, σ') ∧ W.toInt = wI σ p j := by
  unfold fX2_weight fX4_bidOf
  obtain ⟨b1, b2⟩ := bdv_val hP hp hj
  have h2 := plc_le p hp j hj
  rw [at6, if_pos (ib_nI (show 6 * j + p < 36 by omega) (by omega)), nI_clamp (n := 6 * j + p) (by omega), hs.1 18 (by omega), b2, b_some]
  dsimp only
  rw [sh36 _ (by omega), sh1 p hp j hj]
  refine ⟨_, rfl, ?_⟩
  rw [sub_toInt (by omega) (by omega)]
  unfold wI
  omega
theorem allows_spec {σ σ' μ : St} {J P : Nat} (hs : sameC σ σ') (hn : σ.2.1 0 = nI J) (hP : IvP σ μ J P) (h6 : J ≤ 6) (p6 : P ≤ 6) {p j : Nat} (hp : p < P) (hj : j < J) : ∃ r, fX2_allows σ' (nI j) (nI p) = some (r, σ') ∧ (r = 0 ↔ ¬ al σ p j) := by
  unfold fX2_allows al
  rw [if_pos (ib_nI (show p < 6 by omega) (by omega)), nI_clamp (n := p) (by omega), tieC_spec hs hn hP h6 hj hp, b_some, hs.1 15 (by omega)]
  dsimp only
  by_cases c : σ.1 15 p = nI j
  · rw [if_pos c]
    exact ⟨0, rfl, ⟨fun _ q => q.1 c, fun _ => rfl⟩⟩
  · rw [if_neg c]
    by_cases d : tI σ j p = -1
    · rw [if_pos d]
      exact ⟨0, rfl, ⟨fun _ q => q.2 d, fun _ => rfl⟩⟩
    · rw [if_neg d]
      exact ⟨1, rfl, ⟨fun q => absurd q (by decide), fun q => absurd ⟨c, d⟩ q⟩⟩
/-- gains and givers of the twelve, papers first -/
def vl (σ : St) (v : Nat) : Int := if v < 6 then (σ.2.2 30 v).toInt else (σ.2.2 31 (v - 6)).toInt
def nd (x : Int32) : Nat := if 0 ≤ x.toInt ∧ x.toInt < 6 then x.toInt.toNat else 13
theorem nd_nI {p : Nat} (hp : p < 6) : nd (nI p) = p := by
  unfold nd
  rw [nI_toInt (by omega), if_pos (by omega)]
  omega
theorem nd_inv {x : Int32} {p : Nat} (h : nd x = p) (hp : p < 6) : x = nI p := by
  unfold nd at h
  by_cases c : 0 ≤ x.toInt ∧ x.toInt < 6
  · rw [if_pos c] at h
    rw [← h, nI_toNat c.1]
  · rw [if_neg c] at h
    omega
def pl (σ : St) (v : Nat) : Nat := if v < 6 then (if σ.1 32 v = -6 then 12 else 6 + nd (σ.1 32 v)) else (if σ.1 33 (v - 6) = -6 then 12 else nd (σ.1 33 (v - 6)))
theorem vl_J (σ : St) (j : Nat) : vl σ (6 + j) = (σ.2.2 31 j).toInt := by unfold vl; rw [if_neg (by omega), show 6 + j - 6 = j by omega]
theorem vl_P (σ : St) {p : Nat} (hp : p < 6) : vl σ p = (σ.2.2 30 p).toInt := by unfold vl; rw [if_pos hp]
theorem pl_J (σ : St) (j : Nat) : pl σ (6 + j) = if σ.1 33 j = -6 then 12 else nd (σ.1 33 j) := by unfold pl; rw [if_neg (by omega), show 6 + j - 6 = j by omega]
theorem pl_P (σ : St) {p : Nat} (hp : p < 6) : pl σ p = if σ.1 32 p = -6 then 12 else 6 + nd (σ.1 32 p) := by unfold pl; rw [if_pos hp]
theorem nd_J {v : Nat} (h : ¬ v < 6) : ∃ i, v = 6 + i := ⟨v - 6, by omega⟩
theorem vl_to (σ : St) (j p : Nat) (x : Int64) : vl (uA (uL σ 31 j x) 33 j (nI p)) = up (vl σ) (6 + j) x.toInt := by
  funext v
  by_cases c : v = 6 + j
  · subst c
    rw [up_s, vl_J]
    show (vp_updL (σ.2.2 31) j x j).toInt = _
    rw [pk_uLs]
  · rw [up_n _ _ c]
    by_cases h : v < 6
    · rw [vl_P _ h, vl_P _ h]
      rfl
    · obtain ⟨i, rfl⟩ := nd_J h
      rw [vl_J, vl_J]
      show (vp_updL (σ.2.2 31) j x i).toInt = _
      rw [pk_uLn (by omega)]
theorem pl_to (σ : St) (j : Nat) {p : Nat} (hp : p < 6) (x : Int64) : pl (uA (uL σ 31 j x) 33 j (nI p)) = up (pl σ) (6 + j) p := by
  funext v
  by_cases c : v = 6 + j
  · subst c
    rw [up_s, pl_J]
    show (if upd (σ.1 33) j (nI p) j = -6 then 12 else nd (upd (σ.1 33) j (nI p) j)) = _
    rw [pk_us, if_neg (nI_nem6 (by omega)), nd_nI hp]
  · rw [up_n _ _ c]
    by_cases h : v < 6
    · rw [pl_P _ h, pl_P _ h]
      rfl
    · obtain ⟨i, rfl⟩ := nd_J h
      rw [pl_J, pl_J]
      show (if upd (σ.1 33) j (nI p) i = -6 then 12 else nd (upd (σ.1 33) j (nI p) i)) = _
      rw [pk_un (by omega)]
theorem vl_up (σ : St) {p : Nat} (hp : p < 6) (j : Nat) (x : Int64) : vl (uA (uL σ 30 p x) 32 p (nI j)) = up (vl σ) p x.toInt := by
  funext v
  by_cases h : v < 6
  · rw [vl_P _ h]
    show (vp_updL (σ.2.2 30) p x v).toInt = _
    by_cases e : v = p
    · subst e
      rw [up_s, pk_uLs]
    · rw [pk_uLn e, up_n _ _ e, vl_P _ h]
  · rw [up_n _ _ (by omega)]
    obtain ⟨i, rfl⟩ := nd_J h
    rw [vl_J, vl_J]
    rfl
theorem pl_up (σ : St) {p : Nat} (hp : p < 6) {j : Nat} (hj : j < 6) (x : Int64) : pl (uA (uL σ 30 p x) 32 p (nI j)) = up (pl σ) p (6 + j) := by
  funext v
  by_cases h : v < 6
  · rw [pl_P _ h]
    show (if upd (σ.1 32) p (nI j) v = -6 then 12 else 6 + nd (upd (σ.1 32) p (nI j) v)) = _
    by_cases e : v = p
    · subst e
      rw [pk_us, up_s, if_neg (nI_nem6 (by omega)), nd_nI hj]
    · rw [pk_un e, up_n _ _ e, pl_P _ h]
  · rw [up_n _ _ (by omega)]
    obtain ⟨i, rfl⟩ := nd_J h
    rw [pl_J, pl_J]
    rfl
def Ec (σ : St) (P J : Nat) (s : Nat → Nat) (a b u v : Nat) (g : Int) : Prop := a < P ∧ b < J ∧ ((bt (s a) b = 1 ∧ u = 6 + b ∧ v = a ∧ g = - wI σ a b) ∨ (bt (s a) b = 0 ∧ al σ a b ∧ u = a ∧ v = 6 + b ∧ g = wI σ a b))
theorem Ec_ok {σ μ : St} {J P : Nat} (hP : IvP σ μ J P) (h6 : J ≤ 6) (p6 : P ≤ 6) (s : Nat → Nat) : EdOk (Ec σ P J s) P J := by
  constructor
  · rintro a b u v g ⟨h1, h2, h3⟩
    have hw := wI_rng hP (show a < 6 by omega) (show b < 6 by omega)
    rcases h3 with ⟨k1, k2, k3, k4⟩ | ⟨k1, k0, k2, k3, k4⟩
    · exact ⟨h1, h2, by omega, by omega, by omega, by omega, by omega⟩
    · exact ⟨h1, h2, by omega, by omega, by omega, by omega, by omega⟩
  · rintro a b u v g u' v' g' ⟨h1, h2, h3⟩ ⟨-, -, h4⟩
    rcases h3 with ⟨k1, k2, k3, k4⟩ | ⟨k1, k0, k2, k3, k4⟩ <;> rcases h4 with ⟨m1, m2, m3, m4⟩ | ⟨m1, m0, m2, m3, m4⟩
    · exact ⟨by omega, by omega, by omega⟩
    · omega
    · omega
    · exact ⟨by omega, by omega, by omega⟩
theorem U_val : ((-1152921504606846976 : Int64)).toInt = UU := rfl
theorem lgU (x : Int64) : lg_cmp x (-1152921504606846976) = 0 ↔ x.toInt = UU := by
  rw [lg_cmp_eq]
  constructor
  · intro h; rw [h]; rfl
  · intro h; exact Int64.toInt_inj.mp h
theorem lgt (x y : Int64) : 0 < lg_cmp x y ↔ y.toInt < x.toInt := by
  rw [lg_cmp_gt]
  exact Int64.lt_iff_toInt_lt
/-- what the spreading leaves as it was -/
def Fr (σ σ' : St) : Prop := sameC σ σ' ∧ σ'.1 27 = σ.1 27 ∧ σ'.1 28 = σ.1 28 ∧ σ'.1 29 = σ.1 29
theorem giveTo_spec {σ σ' μ : St} {J P : Nat} (hs : sameC σ σ') (hn : σ.2.1 0 = nI J) (hP : IvP σ μ J P) (h6 : J ≤ 6) (p6 : P ≤ 6) {p j : Nat} (hp : p < P) (hj : j < J) (hb : ¬ vl σ' p = UU → -274877906944000 ≤ vl σ' p ∧ vl σ' p ≤ 274877906944000) : (fX2_giveTo σ' (nI j) (nI p) = some (0, σ') ∧ (al σ p j → ¬ vl σ' p = UU → vl σ' p + wI σ p j ≤ vl σ' (6 + j))) ∨ (∃ σ'', fX2_giveTo σ' (nI j) (nI p) = some (1, σ'') ∧ Fr σ' σ'' ∧ al σ p j ∧ ¬ vl σ' p = UU ∧ vl σ' (6 + j) < vl σ' p + wI σ p j ∧ vl σ'' = up (vl σ') (6 + j) (vl σ' p + wI σ p j) ∧ pl σ'' = up (pl σ') (6 + j) p) := by
  unfold fX2_giveTo
  have hp6 : p < 6 := by omega
  have hj6 : j < 6 := by omega
  obtain ⟨r, a1, a2⟩ := allows_spec hs hn hP h6 p6 hp hj
  obtain ⟨W, w1, w2⟩ := weight_spec hs hP hp6 hj6
  have hw := wI_rng hP hp6 hj6
  rw [vl_P σ' hp6] at hb ⊢
  rw [vl_J]
  simp only [if_pos (ib_nI hp6 (show (6 : Nat) < 2 ^ 31 by omega)), if_pos (ib_nI hj6 (show (6 : Nat) < 2 ^ 31 by omega)), nI_clamp (show p < 2 ^ 31 by omega), nI_clamp (show j < 2 ^ 31 by omega), a1, w1, b_some]
  by_cases c : (σ'.2.2 30 p).toInt = UU
  · rw [if_pos ((lgU _).mpr c)]
    exact Or.inl ⟨rfl, fun _ q => absurd c q⟩
  · have hb' := hb c
    rw [if_neg (fun q => c ((lgU _).mp q))]
    by_cases d : r = 0
    · rw [if_pos d]
      exact Or.inl ⟨rfl, fun q _ => absurd q (a2.mp d)⟩
    · rw [if_neg d]
      have hal : al σ p j := by
        by_cases q : al σ p j
        · exact q
        · exact absurd (a2.mpr q) d
      have hsum : (σ'.2.2 30 p + W).toInt = (σ'.2.2 30 p).toInt + wI σ p j := by
        rw [Int64.toInt_add, w2, Int.bmod_eq_of_le (by omega) (by omega)]
      by_cases e : 0 < lg_cmp (σ'.2.2 30 p + W) (σ'.2.2 31 j)
      · rw [if_pos e]
        have e' := (lgt _ _).mp e
        rw [hsum] at e'
        refine Or.inr ⟨_, rfl, ?_, hal, c, e', ?_, ?_⟩
        · exact ⟨sC_uA (sC_uL (sameC.rf σ') 31 j _) (by omega) _ _, rfl, rfl, rfl⟩
        · rw [vl_to, hsum]
        · rw [pl_to σ' j hp6]
      · rw [if_neg e]
        have e' : ¬ (σ'.2.2 31 j).toInt < (σ'.2.2 30 p + W).toInt := fun q => e ((lgt _ _).mpr q)
        rw [hsum] at e'
        exact Or.inl ⟨rfl, fun _ _ => by omega⟩
theorem giveUp_spec {σ σ' μ : St} {J P : Nat} (hs : sameC σ σ') (hP : IvP σ μ J P) (h6 : J ≤ 6) (p6 : P ≤ 6) {p j : Nat} (hp : p < P) (hj : j < J) (hb : ¬ vl σ' (6 + j) = UU → -274877906944000 ≤ vl σ' (6 + j) ∧ vl σ' (6 + j) ≤ 274877906944000) : (fX2_giveUp σ' (nI j) (nI p) = some (0, σ') ∧ (¬ vl σ' (6 + j) = UU → vl σ' (6 + j) + - wI σ p j ≤ vl σ' p)) ∨ (∃ σ'', fX2_giveUp σ' (nI j) (nI p) = some (1, σ'') ∧ Fr σ' σ'' ∧ ¬ vl σ' (6 + j) = UU ∧ vl σ' p < vl σ' (6 + j) + - wI σ p j ∧ vl σ'' = up (vl σ') p (vl σ' (6 + j) + - wI σ p j) ∧ pl σ'' = up (pl σ') p (6 + j)) := by
  unfold fX2_giveUp
  have hp6 : p < 6 := by omega
  have hj6 : j < 6 := by omega
  obtain ⟨W, w1, w2⟩ := weight_spec hs hP hp6 hj6
  have hw := wI_rng hP hp6 hj6
  rw [vl_J] at hb ⊢
  rw [vl_P σ' hp6]
  simp only [if_pos (ib_nI hp6 (show (6 : Nat) < 2 ^ 31 by omega)), if_pos (ib_nI hj6 (show (6 : Nat) < 2 ^ 31 by omega)), nI_clamp (show p < 2 ^ 31 by omega), nI_clamp (show j < 2 ^ 31 by omega), w1, b_some]
  by_cases c : (σ'.2.2 31 j).toInt = UU
  · rw [if_pos ((lgU _).mpr c)]
    exact Or.inl ⟨rfl, fun q => absurd c q⟩
  · have hb' := hb c
    rw [if_neg (fun q => c ((lgU _).mp q))]
    have hsum : (σ'.2.2 31 j - W).toInt = (σ'.2.2 31 j).toInt + - wI σ p j := by
      rw [Int64.toInt_sub, w2, Int.bmod_eq_of_le (by omega) (by omega)]
      omega
    by_cases e : 0 < lg_cmp (σ'.2.2 31 j - W) (σ'.2.2 30 p)
    · rw [if_pos e]
      have e' := (lgt _ _).mp e
      rw [hsum] at e'
      refine Or.inr ⟨_, rfl, ?_, c, e', ?_, ?_⟩
      · exact ⟨sC_uA (sC_uL (sameC.rf σ') 30 p _) (by omega) _ _, rfl, rfl, rfl⟩
      · rw [vl_up σ' hp6, hsum]
      · rw [pl_up σ' hp6 hj6]
    · rw [if_neg e]
      have e' : ¬ (σ'.2.2 30 p).toInt < (σ'.2.2 31 j - W).toInt := fun q => e ((lgt _ _).mpr q)
      rw [hsum] at e'
      exact Or.inl ⟨rfl, fun _ => by omega⟩
