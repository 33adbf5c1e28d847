/-! ===== ways of a judge to a mark ===== -/
theorem i3a {a b : Int32} (h1 : -1000 ≤ a.toInt ∧ a.toInt ≤ 1000) (h2 : -1000 ≤ b.toInt ∧ b.toInt ≤ 1000) : (a + b).toInt = a.toInt + b.toInt := by
  rw [Int32.toInt_add, Int.bmod_eq_of_le (by omega) (by omega)]
theorem i3s {a b : Int32} (h1 : -1000 ≤ a.toInt ∧ a.toInt ≤ 1000) (h2 : -1000 ≤ b.toInt ∧ b.toInt ≤ 1000) : (a - b).toInt = a.toInt - b.toInt := by
  rw [Int32.toInt_sub, Int.bmod_eq_of_le (by omega) (by omega)]
theorem n2l {n : Nat} (h : n < 2 ^ 31) : (nI n).toInt64 = lN n := Int64.toInt_inj.mp (by rw [i2l_toInt, nI_toInt h, lT (by omega)])
def bd (z : Int) : Nat := if z < 0 then 0 else if 5 < z then 5 else z.toNat
theorem bd_le (z : Int) : bd z ≤ 5 := by
  unfold bd
  by_cases h : z < 0
  · rw [if_pos h]; omega
  · rw [if_neg h]
    by_cases h2 : 5 < z
    · rw [if_pos h2]; omega
    · rw [if_neg h2]; omega
theorem nI_toNat {x : Int32} (h : 0 ≤ x.toInt) : nI x.toInt.toNat = x := by
  refine Int32.toInt_inj.mp ?_
  have h1 := x.toInt_lt
  rw [nI_toInt (by omega)]
  omega
theorem bounded_spec (σ : St) {x : Int32} {z : Int} (h : x.toInt = z) : fX3_bounded σ x = some (nI (bd z), σ) := by
  unfold fX3_bounded bd
  subst h
  have f5 : (5 : Int32).toInt = 5 := rfl
  have f0 : (0 : Int32).toInt = 0 := rfl
  by_cases h5 : x < 5
  · have h5' := Int32.lt_iff_toInt_lt.mp h5
    rw [if_pos h5]
    by_cases h0 : 0 < x
    · have h0' := Int32.lt_iff_toInt_lt.mp h0
      rw [if_pos h0, if_neg (by omega), if_neg (by omega), nI_toNat (by omega)]
    · have h0' : ¬ (0 : Int32).toInt < x.toInt := fun q => h0 (Int32.lt_iff_toInt_lt.mpr q)
      rw [if_neg h0]
      by_cases hz : x.toInt < 0
      · rw [if_pos hz]; rfl
      · rw [if_neg hz, if_neg (by omega), show x.toInt = 0 by omega]; rfl
  · have h5' : ¬ x.toInt < (5 : Int32).toInt := fun q => h5 (Int32.lt_iff_toInt_lt.mpr q)
    rw [if_neg h5, if_pos (show (0 : Int32) < 5 by decide), if_neg (by omega)]
    by_cases hz : 5 < x.toInt
    · rw [if_pos hz]; rfl
    · rw [if_neg hz, show x.toInt = 5 by omega]; rfl
theorem within9_spec (σ : St) {x : Int32} {z : Int} (h : x.toInt = z) : fX9_within σ x = some (nI (bd z), σ) := by
  unfold fX9_within bd
  subst h
  have f5 : (5 : Int32).toInt = 5 := rfl
  have f0 : (0 : Int32).toInt = 0 := rfl
  by_cases h0 : 0 ≤ x
  · have h0' := Int32.le_iff_toInt_le.mp h0
    rw [if_pos h0, if_neg (show ¬ x.toInt < 0 by omega)]
    by_cases h5 : x ≤ 5
    · have h5' := Int32.le_iff_toInt_le.mp h5
      rw [if_pos h5, if_neg (by omega), nI_toNat (by omega)]
    · have h5' : ¬ x.toInt ≤ (5 : Int32).toInt := fun q => h5 (Int32.le_iff_toInt_le.mpr q)
      rw [if_neg h5, if_pos (by omega)]; rfl
  · have h0' : ¬ (0 : Int32).toInt ≤ x.toInt := fun q => h0 (Int32.le_iff_toInt_le.mpr q)
    rw [if_neg h0, if_pos (by omega)]; rfl
def tI (σ : St) (j p : Nat) : Int32 := if σ.1 15 p = -6 then 0 else σ.1 13 (6 * j + (σ.1 15 p).toNatClampNeg)
def mt (σ : St) (j p w : Nat) : Int := (w : Int) + (σ.1 10 j).toInt + (tI σ j p).toInt
def sl (σ : St) (j : Nat) : Nat := (σ.1 11 j).toNatClampNeg
def qt (s way : Nat) : Nat := if way = 1 then 4 - 2 * s else s
def wy (σ : St) (j p w v : Nat) : Nat := (if bd (mt σ j p w - 1) = v then sl σ j else 0) + (if bd (mt σ j p w) = v then 4 - 2 * sl σ j else 0) + (if bd (mt σ j p w + 1) = v then sl σ j else 0)
theorem sl_val {σ μ : St} {J : Nat} (hJ : IvJ σ μ J) {j : Nat} (hj : j < J) : sl σ j ≤ 2 ∧ σ.1 11 j = nI (sl σ j) := by
  obtain ⟨h1, h2⟩ := hJ.2.1 j hj
  obtain ⟨k, hk1, hk2⟩ := nI_rng (n := 2) h2 (by omega)
  unfold sl
  rw [h1, hk2, nI_clamp (by omega)]
  exact ⟨by omega, rfl⟩
theorem wy_le {σ μ : St} {J : Nat} (hJ : IvJ σ μ J) {j : Nat} (hj : j < J) (p w v : Nat) : wy σ j p w v ≤ 4 := by
  have h := (sl_val hJ hj).1
  unfold wy
  repeat' split
  all_goals omega
theorem tI_rng {σ μ : St} {J P : Nat} (hJ : IvJ σ μ J) (hP : IvP σ μ J P) (h6 : J ≤ 6) {j p : Nat} (hj : j < J) (hp : p < P) : -1 ≤ (tI σ j p).toInt ∧ (tI σ j p).toInt ≤ 1 := by
  unfold tI
  by_cases h : σ.1 15 p = -6
  · rw [if_pos h]; exact ⟨by decide, by decide⟩
  · rw [if_neg h]
    obtain ⟨w1, w2⟩ := hP.2.1 p hp
    rcases w2 with q | ⟨w, hw, q⟩
    · exact absurd (w1.trans q) h
    · rw [w1, q, nI_clamp (by omega)]
      obtain ⟨t1, t2⟩ := hJ.2.2.2 (6 * j + w) (by omega)
      rw [t1]
      exact t2
theorem mt_rng {σ μ : St} {J P : Nat} (hJ : IvJ σ μ J) (hP : IvP σ μ J P) (h6 : J ≤ 6) {j p : Nat} (hj : j < J) (hp : p < P) {w : Nat} (hw : w ≤ 5) : -3 ≤ mt σ j p w ∧ mt σ j p w ≤ 8 := by
  have h1 := tI_rng hJ hP h6 hj hp
  obtain ⟨l1, l2⟩ := hJ.1 j hj
  unfold mt
  rw [l1]
  have a := l2.1
  have b := l2.2
  omega
theorem mt_val {σ μ : St} {J P : Nat} (hJ : IvJ σ μ J) (hP : IvP σ μ J P) (h6 : J ≤ 6) {j p : Nat} (hj : j < J) (hp : p < P) {w : Nat} (hw : w ≤ 5) : (nI w + σ.1 10 j + tI σ j p).toInt = mt σ j p w := by
  have h1 := tI_rng hJ hP h6 hj hp
  obtain ⟨l1, l2⟩ := hJ.1 j hj
  have e := nI_toInt (n := w) (by omega)
  have a := l2.1
  have b := l2.2
  rw [← l1] at a b
  have s1 : (nI w + σ.1 10 j).toInt = (nI w).toInt + (σ.1 10 j).toInt := i3a (by omega) (by omega)
  rw [i3a (by omega) (by omega), s1, e]
  rfl
theorem tieC_spec {σ σ' μ : St} {J P : Nat} (hs : sameC σ σ') (hn : σ.2.1 0 = nI J) (hP : IvP σ μ J P) (h6 : J ≤ 6) {j p : Nat} (hj : j < J) (hp : p < P) : fX0_tieOf σ' (nI j) (σ'.1 15 p) = some (tI σ j p, σ') := by
  have hn' : σ'.2.1 0 = nI J := (hs.2 0 (by omega)).trans hn
  obtain ⟨w1, w2⟩ := hP.2.1 p hp
  unfold tI
  rw [hs.1 15 (by omega)]
  by_cases h : σ.1 15 p = -6
  · rw [if_pos h, h]
    unfold fX0_tieOf
    have m : (-6 : Int32).toInt = -6 := rfl
    rw [has_spec hn' h6, b_some]
    dsimp only
    rw [bI_ne0, if_pos (by rw [nI_toInt (by omega)]; omega), has_spec hn' h6, b_some]
    dsimp only
    rw [bI_ne0, if_neg (by omega)]
  · rw [if_neg h]
    rcases w2 with q | ⟨w, hw, q⟩
    · exact absurd (w1.trans q) h
    · rw [w1, q, tieOf_spec hn' h6 hj hw, nI_clamp (by omega), hs.1 13 (by omega)]
theorem ways_spec {σ σ' μ : St} {J P : Nat} (hs : sameC σ σ') (hn : σ.2.1 0 = nI J) (hJ : IvJ σ μ J) (hP : IvP σ μ J P) (h6 : J ≤ 6) (p6 : P ≤ 6) {j p : Nat} (hj : j < J) (hp : p < P) {w v : Nat} (hw : w ≤ 5) (hv : v ≤ 5) : fX3_waysOfMark σ' (nI j) (nI p) (nI w) (nI v) = some (nI (wy σ j p w v), σ') := by
  unfold fX3_waysOfMark fX3_waysOfMark_b65 fX3_waysOfMark_b90
  have hm := mt_val hJ hP h6 hj hp hw
  have hr := mt_rng hJ hP h6 hj hp hw
  obtain ⟨s1, s2⟩ := sl_val hJ hj
  have o1 : (1 : Int32).toInt = 1 := rfl
  rw [if_pos (ib_nI (show j < 6 by omega) (by omega)), if_pos (ib_nI (show p < 6 by omega) (by omega)), nI_clamp (n := p) (by omega), tieC_spec hs hn hP h6 hj hp, b_some]
  dsimp only
  rw [if_pos (ib_nI (show j < 6 by omega) (by omega)), nI_clamp (n := j) (by omega), hs.1 10 (by omega), hs.1 11 (by omega), s2]
  have e1 : (nI w + σ.1 10 j + tI σ j p - 1).toInt = mt σ j p w - 1 := by rw [i3s (by omega) (by omega), hm, o1]
  have e2 : (nI w + σ.1 10 j + tI σ j p + 1).toInt = mt σ j p w + 1 := by rw [i3a (by omega) (by omega), hm, o1]
  simp only [bounded_spec σ' e1, bounded_spec σ' e2, bounded_spec σ' hm, b_some]
  have b1 := bd_le (mt σ j p w - 1)
  have b2 := bd_le (mt σ j p w)
  have b3 := bd_le (mt σ j p w + 1)
  unfold wy
  generalize bd (mt σ j p w - 1) = x1 at *
  generalize bd (mt σ j p w) = x2 at *
  generalize bd (mt σ j p w + 1) = x3 at *
  generalize sl σ j = s at *
  have key : ∀ x1, x1 < 6 → ∀ x2, x2 < 6 → ∀ x3, x3 < 6 → ∀ v, v < 6 → ∀ s, s < 3 → (if nI x1 = nI v then (if nI x2 = nI v then (if nI x3 = nI v then (0 + nI s + (4 - 2 * nI s) + nI s) else (0 + nI s + (4 - 2 * nI s) + 0)) else (if nI x3 = nI v then (0 + nI s + 0 + nI s) else (0 + nI s + 0 + 0))) else (if nI x2 = nI v then (if nI x3 = nI v then (0 + 0 + (4 - 2 * nI s) + nI s) else (0 + 0 + (4 - 2 * nI s) + 0)) else (if nI x3 = nI v then (0 + 0 + 0 + nI s) else (0 + 0 + 0 + 0)))) = nI ((if x1 = v then s else 0) + (if x2 = v then 4 - 2 * s else 0) + (if x3 = v then s else 0)) := by decide +kernel
  rw [← key x1 (by omega) x2 (by omega) x3 (by omega) v (by omega) s (by omega)]
  by_cases c1 : nI x1 = nI v
  · rw [if_pos c1, if_pos c1]
    by_cases c2 : nI x2 = nI v
    · rw [if_pos c2, if_pos c2]
      by_cases c3 : nI x3 = nI v
      · rw [if_pos c3, if_pos c3]
      · rw [if_neg c3, if_neg c3]
    · rw [if_neg c2, if_neg c2]
      by_cases c3 : nI x3 = nI v
      · rw [if_pos c3, if_pos c3]
      · rw [if_neg c3, if_neg c3]
  · rw [if_neg c1, if_neg c1]
    by_cases c2 : nI x2 = nI v
    · rw [if_pos c2, if_pos c2]
      by_cases c3 : nI x3 = nI v
      · rw [if_pos c3, if_pos c3]
      · rw [if_neg c3, if_neg c3]
    · rw [if_neg c2, if_neg c2]
      by_cases c3 : nI x3 = nI v
      · rw [if_pos c3, if_pos c3]
      · rw [if_neg c3, if_neg c3]
/-! the reference's side -/
theorem tieM_spec {σ μ μ' : St} {J P : Nat} (hs : sameM μ μ') (hJ : IvJ σ μ J) (hP : IvP σ μ J P) (h6 : J ≤ 6) (p6 : P ≤ 6) {j p : Nat} (hj : j < J) (hp : p < P) : fX9_tieWith μ' (nI j) (nI p) = some (tI σ j p, μ') := by
  unfold fX9_tieWith tI
  obtain ⟨w1, w2⟩ := hP.2.1 p hp
  rw [if_pos (ib_nI (show p < 6 by omega) (by omega)), nI_clamp (n := p) (by omega), hs.1 6 (by omega), ← w1]
  by_cases h : σ.1 15 p = -6
  · rw [if_pos h, if_pos h]
  · rw [if_neg h, if_neg h, if_pos (ib_nI (show p < 6 by omega) (by omega))]
    rcases w2 with q | ⟨w, hw, q⟩
    · exact absurd (w1.trans q) h
    · rw [w1, q, at6', if_pos (ib_nI (show 6 * j + w < 36 by omega) (by omega)), nI_clamp (n := 6 * j + w) (by omega), nI_clamp (n := w) (by omega), hs.1 4 (by omega), (hJ.2.2.2 (6 * j + w) (by omega)).1]
theorem markOf_spec {σ μ μ' : St} {J P : Nat} (hs : sameM μ μ') (hJ : IvJ σ μ J) (hP : IvP σ μ J P) (h6 : J ≤ 6) (p6 : P ≤ 6) {j p : Nat} (hj : j < J) (hp : p < P) {w way : Nat} (hw : w ≤ 5) (hy : way < 3) : fX9_markOf μ' (nI j) (nI p) (nI w) (nI way) = some (nI (bd (mt σ j p w + way - 1)), μ') := by
  unfold fX9_markOf
  have hm := mt_val hJ hP h6 hj hp hw
  have hr := mt_rng hJ hP h6 hj hp hw
  have o1 : (1 : Int32).toInt = 1 := rfl
  have ey := nI_toInt (n := way) (by omega)
  rw [if_pos (ib_nI (show j < 6 by omega) (by omega)), tieM_spec hs hJ hP h6 p6 hj hp, b_some]
  dsimp only
  rw [nI_clamp (n := j) (by omega), hs.1 1 (by omega), ← (hJ.1 j hj).1]
  have e0 : (nI w + σ.1 10 j + tI σ j p + nI way).toInt = mt σ j p w + way := by rw [i3a (by omega) (by omega), hm, ey]
  have e1 : (nI w + σ.1 10 j + tI σ j p + nI way - 1).toInt = mt σ j p w + way - 1 := by rw [i3s (by omega) (by omega), e0, o1]
  rw [within9_spec μ' e1, b_some]
theorem quart_spec {σ μ μ' : St} {J : Nat} (hs : sameM μ μ') (hJ : IvJ σ μ J) (h6 : J ≤ 6) {j : Nat} (hj : j < J) {way : Nat} (hy : way < 3) : fX9_quarters μ' (nI j) (nI way) = some (nI (qt (sl σ j) way), μ') := by
  unfold fX9_quarters qt
  obtain ⟨s1, s2⟩ := sl_val hJ hj
  rw [if_pos (ib_nI (show j < 6 by omega) (by omega)), if_pos (ib_nI (show j < 6 by omega) (by omega)), nI_clamp (n := j) (by omega), hs.1 2 (by omega), ← (hJ.2.1 j hj).1, s2]
  generalize sl σ j = s at *
  have key : ∀ s, s < 3 → (4 : Int32) - 2 * nI s = nI (4 - 2 * s) := by decide +kernel
  by_cases h : way = 1
  · subst h
    rw [if_pos (show nI 1 = 1 from rfl), if_pos rfl, key s (by omega)]
  · rw [if_neg (show ¬ nI way = 1 from fun q => h (nI_inj (b := 1) (by omega) (by omega) q)), if_neg h]
