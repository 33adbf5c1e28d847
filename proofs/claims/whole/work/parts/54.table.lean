/-! ===== match: the reference's table is filled ===== -/
def Rows (σ : St) (P J k l m : Nat) (μ' : St) : Prop := ∀ m', m' ≤ m → DS σ P J k l m' (rwM μ' (P - m'))
theorem rw_oth (μ' : St) {p q n i : Nat} (v : Int32) (hn : n < 15625) (hi : i < 15625) (hne : ¬ (p = q ∧ n = i)) : rwM (uA μ' 16 (15625 * p + n) v) q i = rwM μ' q i := by
  unfold rwM
  rw [uA_same, pk_un (by omega)]
theorem rw_this (μ' : St) (p n : Nat) (v : Int32) : rwM (uA μ' 16 (15625 * p + n) v) p n = v := by
  unfold rwM
  rw [uA_same, pk_us]
theorem most_l45 {σ μ : St} {J P S C k l m : Nat} (hN : IvN σ μ J P S C) (hJ : IvJ σ μ J) (hP : IvP σ μ J P) (hk : k ≤ 3) (hl : l ≤ 4) (hmP : m < P) {p : Nat} (hpm : p = P - 1 - m) (rc38 : St → Int32 → Int32 → Int32 → Option (Unit × St)) : ∀ (n' n : Nat) (μ' : St), n ≤ 15625 → 15625 - n < n' → sameM μ μ' → Rows σ P J k l m μ' → (∀ L, (∀ j, j < 6 → L j ≤ l) → cd L < n → DSL σ P J k l (m + 1) (rwM μ' p) L) → ∃ μ'', fX9_findMost_l45 rc38 n' μ' (nI k) (nI l) (nI p) (nI n) = rc38 μ'' (nI k) (nI l) (nI p + -1) ∧ sameM μ μ'' ∧ Rows σ P J k l (m + 1) μ'' := by
  obtain ⟨n1, n2, n3, n4, n5, n6, n7, n8, n9, n10, n11, n12⟩ := id hN
  have hp : p < P := by omega
  intro n'
  induction n' with
  | zero => intro n μ' h1 h2; omega
  | succ n' ih =>
    intro n μ' h1 h2 hM hR hE
    show ∃ μ'', fX9_findMost_b45 rc38 (fX9_findMost_l45 rc38 n') μ' _ _ _ _ = _ ∧ _
    unfold fX9_findMost_b45
    by_cases h : n = 15625
    · subst h
      rw [if_pos (show (15625 : Int32) ≤ nI 15625 by decide)]
      refine ⟨μ', rfl, hM, ?_⟩
      intro m' hm'
      by_cases z : m' = m + 1
      · subst z
        rw [show P - (m + 1) = p by omega]
        intro L hL
        exact hE L hL (cd_lt (fun j hj => by have := hL j hj; omega))
      · exact hR m' (by omega)
    · have hn : n < 15625 := by omega
      have hdg : ∀ j, j < 6 → dgt n j ≤ 4 := fun j _ => dgt_le n j
      have ecd := dgt_cd hn
      have hkp : k * p ≤ 3 * 6 := Nat.mul_le_mul hk (by omega)
      have hS : sN (dgt n) 6 < 100 := by
        have : ∀ i, i ≤ 6 → sN (dgt n) i ≤ 4 * i := by
          intro i
          induction i with
          | zero => intro _; exact Nat.le_refl 0
          | succ i ihi =>
            intro hi
            have a1 := ihi (by omega)
            have a2 := dgt_le n i
            simp only [sN]
            omega
        have := this 6 (Nat.le_refl 6)
        omega
      have hD : DS σ P J k l m (rwM μ' (p + 1)) := by
        have := hR m (Nat.le_refl m)
        rw [show P - m = p + 1 by omega] at this
        exact this
      have etot : fX9_totalOf μ' (nI n) = some (nI (sN (dgt n) 6), μ') := by
        have := total_spec μ' hdg
        rw [ecd] at this
        exact this
      have elb : fX9_loadsBy μ' (nI n) 0 (nI l) = some (if h : ∀ i, i < 6 → dgt n i + bt 0 i ≤ l then nI (cd (fun i => dgt n i + bt 0 i)) else -6, μ') := by
        have := loads_spec μ' hdg (x := 0) (by omega) hl
        rw [ecd] at this
        exact this
      rw [if_neg (show ¬ (15625 : Int32) ≤ nI n from nI_ge (b := 15625) hn (by omega)), etot, b_some]
      dsimp only
      rw [pk_mul]
      have put : ∀ M : Int32, (∀ L, (∀ j, j < 6 → L j ≤ l) → cd L = n → DSL σ P J k l (m + 1) (rwM (uA μ' 16 (15625 * p + n) M) p) L) → ∃ μ'', fX9_findMost_b142 rc38 (fX9_findMost_l45 rc38 n') μ' (nI k) (nI l) (nI p) (nI n) M = rc38 μ'' (nI k) (nI l) (nI p + -1) ∧ sameM μ μ'' ∧ Rows σ P J k l (m + 1) μ'' := by
        intro M hML
        unfold fX9_findMost_b142
        rw [ix16, if_pos (ib_nI (show 15625 * p + n < 109375 by omega) (by omega)), nI_clamp (by omega), show nI n + (1 : Int32) = nI (n + 1) from nI_1 n]
        refine ih (n + 1) _ (by omega) (by omega) (sM_uA hM (by omega) _ _) ?_ ?_
        · intro m' hm' L hL
          have hlt := cd_lt (L := L) (fun j hj => by have := hL j hj; omega)
          exact DSL_eq (rw_oth μ' M hn hlt (by omega)) (hR m' hm' L hL)
        · intro L hL hcd
          by_cases z : cd L = n
          · exact hML L hL z
          · have hlt := cd_lt (L := L) (fun j hj => by have := hL j hj; omega)
            exact DSL_eq (rw_oth μ' M hn hlt (by omega)) (hE L hL (by omega))
      have nope : (∀ L, (∀ j, j < 6 → L j ≤ l) → cd L = n → ¬ sN L 6 = k * p) → ∃ μ'', fX9_findMost_b142 rc38 (fX9_findMost_l45 rc38 n') μ' (nI k) (nI l) (nI p) (nI n) (-6) = rc38 μ'' (nI k) (nI l) (nI p + -1) ∧ sameM μ μ'' ∧ Rows σ P J k l (m + 1) μ'' := by
        intro hno
        refine put (-6) (fun L hL hcd => ?_)
        unfold DSL
        rw [hcd, rw_this]
        refine ⟨Or.inl rfl, fun X _ hT => ?_, fun v hv hq => ?_⟩
        · rw [show P - (m + 1) = p by omega] at hT
          exact absurd hT (hno L hL hcd)
        · exact absurd hq.symm (nI_nem6 (show v < 2 ^ 31 by omega))
      have uniq : ∀ L, (∀ j, j < 6 → L j ≤ l) → cd L = n → ∀ j, j < 6 → dgt n j = L j := by
        intro L hL hcd
        exact cd_inj hdg (fun j hj => by have := hL j hj; omega) (by rw [ecd, hcd])
      by_cases c : sN (dgt n) 6 = k * p
      · rw [if_pos (by rw [c]), elb, b_some]
        dsimp only
        by_cases d : ∀ i, i < 6 → dgt n i + bt 0 i ≤ l
        · rw [dif_pos d]
          have hlt := cd_lt (L := fun i => dgt n i + bt 0 i) (fun j hj => by have := d j hj; omega)
          rw [if_neg (show ¬ nI (cd (fun i => dgt n i + bt 0 i)) < 0 from fun q => by
            have q1 := Int32.lt_iff_toInt_lt.mp q
            rw [nI_toInt (by omega)] at q1
            have z : (0 : Int32).toInt = 0 := rfl
            omega)]
          have hdl : ∀ j, j < 6 → dgt n j ≤ l := fun j hj => by have := d j hj; omega
          obtain ⟨M, e1, e2, e3⟩ := most_l82 hN hJ hP hM hk hl hp (show m ≤ 6 by omega) hD hdl rc38 (fX9_findMost_l45 rc38 n') gF 0 (-6) (Nat.zero_le _) (by have := two_pow6 n1; simp [gF]; omega) ⟨Or.inl rfl, fun y hy => absurd hy (by omega)⟩
          rw [ecd] at e1
          rw [show fX9_findMost_l82 rc38 (fX9_findMost_l45 rc38 n') gF μ' (nI k) (nI l) (nI p) (nI n) (-6) 0 = _ from e1]
          refine put M (fun L hL hcd => ?_)
          refine DSL_L (uniq L hL hcd) ?_
          exact entry hN hmP hpm hl hD hdl (by rw [ecd, rw_this]) e2 e3
        · rw [dif_neg d, if_pos (show (-6 : Int32) < 0 by decide)]
          refine nope (fun L hL hcd => ?_)
          exfalso
          refine d (fun i hi => ?_)
          rw [bt_0, uniq L hL hcd i hi]
          exact hL i hi
      · rw [if_neg (fun q => c (nI_inj (by omega) (by omega) q))]
        refine nope (fun L hL hcd hT => ?_)
        refine c ?_
        rw [sN_congr (g := L) 6 (uniq L hL hcd)]
        exact hT
theorem most_l38 {σ μ : St} {J P S C k l : Nat} (hN : IvN σ μ J P S C) (hJ : IvJ σ μ J) (hP : IvP σ μ J P) (hk : k ≤ 3) (hl : l ≤ 4) : ∀ (p n : Nat) (μ' : St), p ≤ P → p < n → sameM μ μ' → Rows σ P J k l (P - p) μ' → ∃ μ'', fX9_findMost_l38 n μ' (nI k) (nI l) (nI p + -1) = some ((), μ'') ∧ sameM μ μ'' ∧ Rows σ P J k l P μ'' := by
  have n2 := hN.2.1
  intro p
  induction p with
  | zero =>
    intro n μ' h1 h2 hM hR
    obtain ⟨n, rfl⟩ : ∃ i, n = i + 1 := ⟨n - 1, by omega⟩
    show ∃ μ'', fX9_findMost_b38 (fX9_findMost_l38 n) μ' _ _ _ = _ ∧ _
    unfold fX9_findMost_b38
    rw [if_pos (show nI 0 + -1 < (0 : Int32) by decide)]
    exact ⟨μ', rfl, hM, hR⟩
  | succ p ih =>
    intro n μ' h1 h2 hM hR
    obtain ⟨n, rfl⟩ : ∃ i, n = i + 1 := ⟨n - 1, by omega⟩
    show ∃ μ'', fX9_findMost_b38 (fX9_findMost_l38 n) μ' _ _ _ = _ ∧ _
    unfold fX9_findMost_b38
    rw [pk_m1 p, if_neg (show ¬ nI p < 0 from fun q => by
      have q1 := Int32.lt_iff_toInt_lt.mp q
      rw [nI_toInt (by omega)] at q1
      have z : (0 : Int32).toInt = 0 := rfl
      omega)]
    obtain ⟨μ1, a1, a2, a3⟩ := most_l45 hN hJ hP hk hl (m := P - (p + 1)) (by omega) (p := p) (by omega) (fX9_findMost_l38 n) gF 0 μ' (by omega) (by simp [gF]) hM hR (fun L _ h => absurd h (by omega))
    rw [show P - (p + 1) + 1 = P - p by omega] at a3
    obtain ⟨μ2, b1, b2⟩ := ih n μ1 (by omega) (by omega) a2 a3
    exact ⟨μ2, a1.trans b1, b2⟩
theorem most_l2 {σ μ : St} {J P S C k l : Nat} (hN : IvN σ μ J P S C) (hJ : IvJ σ μ J) (hP : IvP σ μ J P) (hk : k ≤ 3) (hl : l ≤ 4) : ∀ (n' n : Nat) (μ' : St), n ≤ 15625 → 15625 - n < n' → sameM μ μ' → (∀ i, i < n → rwM μ' P i = 0) → ∃ μ'', fX9_findMost_l2 n' μ' (nI k) (nI l) (nI n) = some ((), μ'') ∧ sameM μ μ'' ∧ Rows σ P J k l P μ'' := by
  obtain ⟨n1, n2, n3, n4, n5, n6, n7, n8, n9, n10, n11, n12⟩ := id hN
  intro n'
  induction n' with
  | zero => intro n μ' h1 h2; omega
  | succ n' ih =>
    intro n μ' h1 h2 hM hz
    show ∃ μ'', fX9_findMost_b2 (fX9_findMost_l2 n') μ' _ _ _ = _ ∧ _
    unfold fX9_findMost_b2
    rw [hM.2 1 (by omega), n8]
    by_cases h : n = 15625
    · subst h
      rw [if_pos (show (15625 : Int32) ≤ nI 15625 by decide), Int32.sub_eq_add_neg]
      refine most_l38 hN hJ hP hk hl P gF μ' (Nat.le_refl P) (by simp [gF]; omega) hM ?_
      intro m' hm'
      obtain rfl : m' = 0 := by omega
      intro L hL
      have hlt := cd_lt (L := L) (fun j hj => by have := hL j hj; omega)
      unfold DSL
      rw [show P - 0 = P from rfl, hz (cd L) hlt]
      refine ⟨Or.inr ⟨0, Nat.zero_le _, rfl⟩, fun X _ _ => ⟨0, Nat.zero_le _, rfl, Nat.le_refl 0⟩, fun v hv _ => ?_⟩
      refine ⟨fun _ => 0, ⟨fun i hi => absurd hi (by omega), fun j hj => ?_⟩, by simp only [tS]; omega⟩
      simp only [tS]
      exact hL j hj
    · have hn : n < 15625 := by omega
      rw [if_neg (show ¬ (15625 : Int32) ≤ nI n from nI_ge (b := 15625) hn (by omega)), ix16, if_pos (ib_nI (show 15625 * P + n < 109375 by omega) (by omega)), nI_clamp (by omega), show nI n + (1 : Int32) = nI (n + 1) from nI_1 n]
      refine ih (n + 1) _ (by omega) (by omega) (sM_uA hM (by omega) _ _) ?_
      intro i hi
      by_cases z : i = n
      · subst z; exact rw_this μ' P i 0
      · rw [rw_oth μ' 0 hn (by omega) (by omega)]
        exact hz i (by omega)
theorem table_spec {σ μ : St} {J P S C k l : Nat} (hN : IvN σ μ J P S C) (hJ : IvJ σ μ J) (hP : IvP σ μ J P) (hk : k ≤ 3) (hl : l ≤ 4) : ∃ μ', fX9_findMost μ (nI k) (nI l) = some ((), μ') ∧ sameM μ μ' ∧ Rows σ P J k l P μ' := most_l2 hN hJ hP hk hl gF 0 μ (by omega) (by simp [gF]) (sameM.rf μ) (fun i h => absurd h (by omega))
