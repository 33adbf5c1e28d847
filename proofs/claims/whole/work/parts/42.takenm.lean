/-! the reference's way -/
theorem wv_val {σ μ : St} {J P : Nat} (hP : IvP σ μ J P) {p : Nat} (hp : p < P) : wv σ p ≤ 5 ∧ μ.1 5 p = nI (wv σ p) := by
  obtain ⟨w1, w2⟩ := hP.1 p hp
  obtain ⟨w, e1, e2⟩ := nI_rng (n := 5) w2 (by omega)
  unfold wv
  rw [w1, e2, nI_clamp (by omega)]
  exact ⟨by omega, rfl⟩
theorem tkM_l75 {σ μ : St} {J P S C : Nat} (hN : IvN σ μ J P S C) (hJ : IvJ σ μ J) (hP : IvP σ μ J P) (hR : IvR σ μ S C) {p s : Nat} (hp : p < P) (hs : s < 64) (rc : St → Int32 → Int32 → Int32 → Int64 → Int32 → Option (Int64 × St)) (x4 : Int32) (A : Nat) (x7 : Nat) : ∀ (m n j : Nat) (μ' : St) (c : Nat → Nat) (o l : Nat), j + m = J → m < n → sameM μ μ' → TA (μ'.1 15) c → pre c 6 ≤ j → l < 1000 → ∃ μ'', fX9_takenOf_l75 rc n μ' (nI p) (nI s) x4 (lN A) (nI x7) (lN o) (nI l) (nI j) = rc μ'' (nI p) (nI s) x4 (lN (A + Tc σ C p s m j c o l)) (nI (x7 + 1)) ∧ sameM μ μ'' := by
  obtain ⟨n1, n2, n3, n4, n5, n6, n7, n8, n9, n10, n11, n12⟩ := id hN
  intro m
  induction m with
  | zero =>
    intro n j μ' c o l h1 h2 hM hT hc hl
    obtain ⟨n, rfl⟩ : ∃ i, n = i + 1 := ⟨n - 1, by omega⟩
    show ∃ μ'', fX9_takenOf_b75 rc (fX9_takenOf_l75 rc n) μ' _ _ _ _ _ _ _ _ = _ ∧ _
    unfold fX9_takenOf_b75
    have hq := qn_le hR c
    rw [hM.2 0 (by omega), n6, if_pos (nI_le (by omega) (by omega)), yesOf_spec hM n12 hR n4 hT (by omega), b_some]
    dsimp only
    rw [n2l (by omega), lN_mul, lN_add, show nI x7 + (1 : Int32) = nI (x7 + 1) from nI_1 x7]
    exact ⟨μ', rfl, hM⟩
  | succ m ih =>
    intro n j μ' c o l h1 h2 hM hT hc hl
    obtain ⟨n, rfl⟩ : ∃ i, n = i + 1 := ⟨n - 1, by omega⟩
    show ∃ μ'', fX9_takenOf_b75 rc (fX9_takenOf_l75 rc n) μ' _ _ _ _ _ _ _ _ = _ ∧ _
    unfold fX9_takenOf_b75 fX9_takenOf_b144
    have hb := bt_lt s j
    have hjJ : j < J := by omega
    rw [hM.2 0 (by omega), n6, if_neg (nI_ge hjJ (by omega)), bit_val s hs j (by omega), show nI j + (1 : Int32) = nI (j + 1) from nI_1 j]
    simp only [Tc]
    by_cases hz : bt s j = 0
    · rw [if_neg (show ¬ nI (bt s j) = 1 by rw [hz]; decide), if_pos hz]
      exact ih n (j + 1) μ' c o l (by omega) (by omega) hM hT (by omega) hl
    · rw [if_pos (show nI (bt s j) = 1 by rw [show bt s j = 1 by omega]; rfl), if_neg hz]
      have hr : nI l - nI l / 3 * 3 = nI (l % 3) := pk_rem (d := 3) (by omega) (by omega) (by omega)
      have hd : nI l / 3 = nI (l / 3) := pk_div (d := 3) (by omega) (by omega) (by omega)
      have h3 : l % 3 < 3 := Nat.mod_lt _ (by omega)
      obtain ⟨v1, v2⟩ := wv_val hP hp
      have hsl := (sl_val hJ hjJ).1
      have hq4 : qt (sl σ j) (l % 3) ≤ 4 := by
        unfold qt
        by_cases q : l % 3 = 1
        · rw [if_pos q]; omega
        · rw [if_neg q]; omega
      rw [hr, hd, quart_spec hM hJ n1 hjJ h3, b_some]
      dsimp only
      rw [if_pos (ib_nI (show p < 6 by omega) (by omega)), nI_clamp (n := p) (by omega), hM.1 5 (by omega), v2, markOf_spec hM hJ hP n1 n2 hjJ hp v1 h3, b_some]
      dsimp only
      have hmk := mk_le σ p j (l % 3)
      rw [show bd (mt σ j p (wv σ p) + ((l % 3 : Nat) : Int) - 1) = mk σ p j (l % 3) from rfl, if_pos (ib_nI hmk (by omega)), if_pos (ib_nI hmk (by omega)), nI_clamp (n := mk σ p j (l % 3)) (by omega), n2l (by omega), lN_mul]
      exact ih n (j + 1) _ (inc c (mk σ p j (l % 3))) (o * qt (sl σ j) (l % 3)) (l / 3) (by omega) (by omega) (sM_uA hM (by omega) _ _) (TA_inc hT) (by rw [(inc_pre c hmk).1]; omega) (by omega)
theorem tkM_l54 {σ μ : St} {J P S C : Nat} (hN : IvN σ μ J P S C) (hJ : IvJ σ μ J) (hP : IvP σ μ J P) (hR : IvR σ μ S C) {p s : Nat} (hp : p < P) (hs : s < 64) {N : Nat} (hNl : N ≤ 729) : ∀ (n w : Nat) (μ' : St), w ≤ N → N - w < n → sameM μ μ' → ∃ μ'', fX9_takenOf_l54 n μ' (nI p) (nI s) (nI N) (lN (sN (fun w => Tc σ C p s J 0 (fun _ => 0) 1 w) w)) (nI w) = some (lN (sN (fun w => Tc σ C p s J 0 (fun _ => 0) 1 w) N), μ'') ∧ sameM μ μ'' := by
  intro n
  induction n with
  | zero => intro w μ' h1 h2; omega
  | succ n ih =>
    intro w μ' h1 h2 hM
    show ∃ μ'', fX9_takenOf_b54 (fX9_takenOf_l54 n) μ' _ _ _ _ _ = _ ∧ _
    unfold fX9_takenOf_b54
    by_cases h : w = N
    · subst h
      rw [if_pos (nI_le (Nat.le_refl w) (by omega))]
      exact ⟨μ', rfl, hM⟩
    · have hlt : w < N := by omega
      rw [if_neg (nI_ge hlt (by omega))]
      obtain ⟨μ1, a1, a2, a3⟩ := given_spec hM
      rw [a1, b_some]
      have hj6 := hN.1
      obtain ⟨μ2, b1, b2⟩ := tkM_l75 hN hJ hP hR hp hs (fX9_takenOf_l54 n) (nI N) (sN (fun w => Tc σ C p s J 0 (fun _ => 0) 1 w) w) w J gF 0 μ1 (fun _ => 0) 1 w (by omega) (by simp [gF]; omega) a3 a2 (Nat.le_refl 0) (by omega)
      obtain ⟨μ3, c1, c2⟩ := ih (w + 1) μ2 (by omega) (by omega) b2
      exact ⟨μ3, b1.trans c1, c2⟩
theorem tkM_l13 {σ μ : St} {J P S C : Nat} (hN : IvN σ μ J P S C) (hJ : IvJ σ μ J) (hP : IvP σ μ J P) (hR : IvR σ μ S C) {p s : Nat} (hp : p < P) (hs : s < 64) : ∀ (m n j : Nat) (μ' : St) (a : Nat), j + m = J → m < n → sameM μ μ' → a * 3 ^ m ≤ 729 → ∃ μ'', fX9_takenOf_l13 n μ' (nI p) (nI s) (nI a) (nI j) = some (lN (sN (fun w => Tc σ C p s J 0 (fun _ => 0) 1 w) (a * 3 ^ nb s m j)), μ'') ∧ sameM μ μ'' := by
  obtain ⟨n1, n2, n3, n4, n5, n6, n7, n8, n9, n10, n11, n12⟩ := id hN
  intro m
  induction m with
  | zero =>
    intro n j μ' a h1 h2 hM ha
    obtain ⟨n, rfl⟩ : ∃ i, n = i + 1 := ⟨n - 1, by omega⟩
    show ∃ μ'', fX9_takenOf_b13 (fX9_takenOf_l13 n) μ' _ _ _ _ = _ ∧ _
    unfold fX9_takenOf_b13
    rw [hM.2 0 (by omega), n6, if_pos (nI_le (by omega) (by omega))]
    have ha' : a ≤ 729 := by rw [Nat.pow_zero, Nat.mul_one] at ha; exact ha
    obtain ⟨μ1, a1, a2⟩ := tkM_l54 hN hJ hP hR hp hs ha' gF 0 μ' (by omega) (by simp [gF]; omega) hM
    refine ⟨μ1, a1.trans ?_, a2⟩
    simp only [nb, Nat.pow_zero, Nat.mul_one]
  | succ m ih =>
    intro n j μ' a h1 h2 hM ha
    obtain ⟨n, rfl⟩ : ∃ i, n = i + 1 := ⟨n - 1, by omega⟩
    show ∃ μ'', fX9_takenOf_b13 (fX9_takenOf_l13 n) μ' _ _ _ _ = _ ∧ _
    unfold fX9_takenOf_b13 fX9_takenOf_b39
    have hb := bt_lt s j
    rw [hM.2 0 (by omega), n6, if_neg (nI_ge (by omega) (by omega)), bit_val s hs j (by omega), show nI j + (1 : Int32) = nI (j + 1) from nI_1 j]
    rw [Nat.pow_succ] at ha
    simp only [nb]
    by_cases hz : bt s j = 0
    · rw [if_neg (show ¬ nI (bt s j) = 1 by rw [hz]; decide), hz, Nat.zero_add, show nI a * (1 : Int32) = nI (a * 1) from pk_mul a 1, Nat.mul_one]
      refine ih n (j + 1) μ' a (by omega) (by omega) hM ?_
      have : a * (3 ^ m * 1) ≤ a * (3 ^ m * 3) := Nat.mul_le_mul_left _ (Nat.mul_le_mul_left _ (by omega))
      rw [Nat.mul_one] at this
      omega
    · rw [if_pos (show nI (bt s j) = 1 by rw [show bt s j = 1 by omega]; rfl), show bt s j = 1 by omega, show nI a * (3 : Int32) = nI (a * 3) from pk_mul a 3]
      have e : a * 3 ^ (1 + nb s m (j + 1)) = a * 3 * 3 ^ nb s m (j + 1) := by
        rw [Nat.pow_add, Nat.pow_one, Nat.mul_assoc]
      rw [e]
      refine ih n (j + 1) μ' (a * 3) (by omega) (by omega) hM ?_
      rw [Nat.mul_assoc, Nat.mul_comm 3]
      exact ha
theorem takenM_spec {σ μ μ' : St} {J P S C : Nat} (hN : IvN σ μ J P S C) (hJ : IvJ σ μ J) (hP : IvP σ μ J P) (hR : IvR σ μ S C) {p s : Nat} (hp : p < P) (hs64 : s < 2 ^ J) (hM : sameM μ μ') : ∃ μ'', fX9_takenOf μ' (nI p) (nI s) = some (lN (Rc σ C p (wo σ p s) 6 0 (fun _ => 0)), μ'') ∧ sameM μ μ'' := by
  obtain ⟨n1, n2, n3, n4, n5, n6, n7, n8, n9, n10, n11, n12⟩ := id hN
  have hs : s < 64 := Nat.lt_of_lt_of_le hs64 (Nat.pow_le_pow_right (n := 2) (by omega) n1)
  have hwl := wo_le σ p s
  unfold fX9_takenOf
  rw [withoutM_spec hM hP n1 n2 hp hs, b_some]
  dsimp only
  have h3 : 3 ^ J ≤ 3 ^ 6 := Nat.pow_le_pow_right (by omega) n1
  obtain ⟨μ1, a1, a2⟩ := tkM_l13 hN hJ hP hR hp (show wo σ p s < 64 by omega) J gF 0 μ' 1 (by omega) (by simp [gF]; omega) hM (by rw [Nat.one_mul]; exact h3)
  refine ⟨μ1, a1.trans ?_, a2⟩
  rw [Nat.one_mul, T_R, Nat.one_mul]
  have hp6 := R_pad σ C p (wo σ p s) J (6 - J) 0 (fun _ => 0) (fun i hi => bt_out (J := J) (by omega) (by omega))
  rw [show J + (6 - J) = 6 by omega] at hp6
  rw [hp6]
def Rt (σ : St) (C p s : Nat) : Nat := Rc σ C p (wo σ p s) 6 0 (fun _ => 0)
def nS (σ : St) (p s : Nat) : Nat := nb (wo σ p s) 6 0
theorem nS_le (σ : St) (p s : Nat) : nS σ p s ≤ 6 := nb_le _ 6 0
theorem Wt_eq (σ : St) (C p s : Nat) : Wc σ C p (wo σ p s) 6 0 (fun _ => 0) = 4 ^ (6 - nS σ p s) * Rt σ C p s := W_R σ C p _ 6 0 _
theorem Rt_le {σ μ : St} {J P S C : Nat} (hN : IvN σ μ J P S C) (hJ : IvJ σ μ J) (hR : IvR σ μ S C) {p s : Nat} (hs64 : s < 2 ^ J) : Rt σ C p s ≤ 4 ^ (nS σ p s + 1) := by
  have n1 := hN.1
  have hwl := wo_le σ p s
  have hz : ∀ i, 0 + J ≤ i → bt (wo σ p s) i = 0 := fun i hi => bt_out (J := J) (by omega) (by omega)
  have h1 := R_pad σ C p (wo σ p s) J (6 - J) 0 (fun _ => 0) hz
  have h2 := nb_pad (wo σ p s) J (6 - J) 0 hz
  rw [show J + (6 - J) = 6 by omega] at h1 h2
  unfold Rt nS
  rw [h1, h2]
  exact R_le hJ hR p J 0 _ (by omega)
theorem pw_all (k : Nat) (h : k ≤ 6) : 4 ^ (6 - k) * 4 ^ (k + 1) = 16384 := by
  rw [← Nat.pow_add, show 6 - k + (k + 1) = 7 by omega]
theorem pw_pos (k : Nat) : 0 < 4 ^ k := Nat.pow_pos (by omega)
theorem ones_l (μ : St) {s : Nat} (hs : s < 64) : ∀ (m n j a : Nat), j + m = 6 → m < n → fX9_ones_l4 n μ (nI s) (nI a) (nI j) = some (nI (a + nb s m j), μ) := by
  intro m
  induction m with
  | zero =>
    intro n j a h1 h2
    obtain ⟨n, rfl⟩ : ∃ i, n = i + 1 := ⟨n - 1, by omega⟩
    show fX9_ones_b4 (fX9_ones_l4 n) μ _ _ _ = _
    unfold fX9_ones_b4
    rw [show j = 6 by omega, if_pos (show (6 : Int32) ≤ nI 6 by decide)]
    rfl
  | succ m ih =>
    intro n j a h1 h2
    obtain ⟨n, rfl⟩ : ∃ i, n = i + 1 := ⟨n - 1, by omega⟩
    show fX9_ones_b4 (fX9_ones_l4 n) μ _ _ _ = _
    unfold fX9_ones_b4
    rw [if_neg (show ¬ (6 : Int32) ≤ nI j from nI_ge (b := 6) (by omega) (by omega)), bit_val s hs j (by omega), nI_add, show nI j + (1 : Int32) = nI (j + 1) from nI_1 j, ih n (j + 1) _ (by omega) (by omega)]
    simp only [nb]
    rw [Nat.add_assoc]
theorem ones_spec (μ : St) {s : Nat} (hs : s < 64) : fX9_ones μ (nI s) = some (nI (nb s 6 0), μ) := by
  have := ones_l μ hs 6 gF 0 0 rfl (by simp [gF])
  rw [Nat.zero_add] at this
  exact this
theorem powM_l (μ : St) (b r : Nat) (hr : r < 100) : ∀ (n k : Nat), k ≤ r → r - k < n → fX9_power_l5 n μ (lN b) (nI r) (lN (b ^ k)) (nI k) = some (lN (b ^ r), μ) := by
  intro n
  induction n with
  | zero => intro k h1 h2; omega
  | succ n ih =>
    intro k h1 h2
    show fX9_power_b5 (fX9_power_l5 n) μ _ _ _ _ = _
    unfold fX9_power_b5
    by_cases h : k = r
    · subst h
      rw [if_pos (nI_le (Nat.le_refl k) (by omega))]
    · rw [if_neg (nI_ge (by omega) (by omega)), lN_mul, ← Nat.pow_succ, show nI k + (1 : Int32) = nI (k + 1) from nI_1 k]
      exact ih (k + 1) (by omega) (by omega)
theorem powM_spec (μ : St) (b : Nat) {r : Nat} (hr : r < 100) : fX9_power μ (lN b) (nI r) = some (lN (b ^ r), μ) := powM_l μ b r hr gF 0 (by omega) (by simp [gF]; omega)
theorem powC_l (μ : St) (b r : Nat) (hr : r < 100) : ∀ (n k : Nat), k ≤ r → r - k < n → fX8_power_l5 n μ (lN b) (nI r) (lN (b ^ k)) (nI k) = some (lN (b ^ r), μ) := by
  intro n
  induction n with
  | zero => intro k h1 h2; omega
  | succ n ih =>
    intro k h1 h2
    show fX8_power_b5 (fX8_power_l5 n) μ _ _ _ _ = _
    unfold fX8_power_b5
    by_cases h : k = r
    · subst h
      rw [if_pos (nI_le (Nat.le_refl k) (by omega))]
    · rw [if_neg (nI_ge (by omega) (by omega)), lN_mul, ← Nat.pow_succ, show nI k + (1 : Int32) = nI (k + 1) from nI_1 k]
      exact ih (k + 1) (by omega) (by omega)
theorem powC_spec (μ : St) (b : Nat) {r : Nat} (hr : r < 100) : fX8_power μ (lN b) (nI r) = some (lN (b ^ r), μ) := powC_l μ b r hr gF 0 (by omega) (by simp [gF]; omega)
theorem allOf_spec {σ μ μ' : St} {J P S C : Nat} (hN : IvN σ μ J P S C) (hP : IvP σ μ J P) {p s : Nat} (hp : p < P) (hs64 : s < 2 ^ J) (hM : sameM μ μ') : fX9_allOf μ' (nI p) (nI s) = some (lN (4 ^ (nS σ p s + 1)), μ') := by
  obtain ⟨n1, n2, n3, n4, n5, n6, n7, n8, n9, n10, n11, n12⟩ := id hN
  have hs : s < 64 := Nat.lt_of_lt_of_le hs64 (Nat.pow_le_pow_right (n := 2) (by omega) n1)
  have hwl := wo_le σ p s
  have hnl := nb_le (wo σ p s) 6 0
  unfold fX9_allOf nS
  rw [withoutM_spec hM hP n1 n2 hp hs, b_some]
  dsimp only
  rw [ones_spec μ' (by omega), b_some]
  dsimp only
  rw [show nI (nb (wo σ p s) 6 0) + (1 : Int32) = nI (nb (wo σ p s) 6 0 + 1) from nI_1 _, show (4 : Int64) = lN 4 from rfl, powM_spec μ' 4 (by omega), b_some]
/-! refusals -/
theorem setC_top : ∀ J, J < 7 → (((1 : Int32) <<< (nI J &&& 31)) - 1).toInt = ((2 ^ J : Nat) : Int) - 1 := by decide +kernel
theorem areJ_spec {σ : St} {J : Nat} (hJ : σ.2.1 0 = nI J) (h6 : J ≤ 6) (x : Int32) : fX8_areJudges σ x = some (bI (0 ≤ x.toInt ∧ x.toInt < (2 ^ J : Nat)), σ) := by
  unfold fX8_areJudges
  rw [within_spec, hJ, setC_top J (by omega)]
  show (if _ ∨ _ then _ else _) = _
  rw [bI_guard]
  congr 2
  refine bI_iff ?_
  have z : (0 : Int32).toInt = 0 := rfl
  omega
theorem isSet_spec {σ : St} {J : Nat} (hJ : σ.2.1 0 = nI J) (h6 : J ≤ 6) (x : Int32) : fX9_isSet σ x = some (bI (0 ≤ x.toInt ∧ x.toInt < (2 ^ J : Nat)), σ) := by
  unfold fX9_isSet
  rw [in_spec, hJ, i2l_toInt, i2l_toInt, setC_top J (by omega)]
  show (if _ ∨ _ then _ else _) = _
  rw [bI_guard]
  congr 2
  refine bI_iff ?_
  have z : (0 : Int64).toInt = 0 := rfl
  omega
theorem two_pow6 {J : Nat} (h : J ≤ 6) : 2 ^ J ≤ 64 := Nat.pow_le_pow_right (n := 2) (by omega) h
theorem lost1 : (-1000000000000000000 : Int64) + (-1 : Int32).toInt64 = -1000000000000000001 := by decide
theorem lost2 : (-1000000000000000000 : Int64) + (-2 : Int32).toInt64 = -1000000000000000002 := by decide
theorem lost3 : (-1000000000000000000 : Int64) + (-3 : Int32).toInt64 = -1000000000000000003 := by decide
theorem i10 : ((1 : Int32) = 0) = False := eq_false (by decide)
theorem im1 : ((-1 : Int32) = 0) = False := eq_false (by decide)
theorem im2 : ((-2 : Int32) = 0) = False := eq_false (by decide)
theorem im3 : ((-3 : Int32) = 0) = False := eq_false (by decide)
theorem refusal_spec {σ : St} {C : Nat} (hC : σ.2.1 3 = nI C) (k : Prop) [Decidable k] (t : Int32) : fX8_refusalOfOdds σ (bI k) t = some (if k then (if t = 0 then -2 else if nI C = 0 then -3 else 0) else -1, σ) := by
  unfold fX8_refusalOfOdds
  rw [bI_ne0, hC]
  by_cases c : k
  · rw [if_pos c, if_pos c]
    by_cases d : t = 0
    · rw [if_pos d, if_pos d]
    · rw [if_neg d, if_neg d]
      by_cases e : nI C = 0
      · rw [if_pos e, if_pos e]
      · rw [if_neg e, if_neg e]
  · rw [if_neg c, if_neg c]
theorem refusal_1 {σ : St} {C : Nat} (hC : σ.2.1 3 = nI C) (t : Int32) : fX8_refusalOfOdds σ 1 t = some (if t = 0 then -2 else if nI C = 0 then -3 else 0, σ) := by
  have := refusal_spec hC True t
  rw [bI_t trivial, if_pos trivial] at this
  exact this
/-- the two counts of one paper and one set -/
theorem odds_num {σ μ : St} {J P S C : Nat} (hN : IvN σ μ J P S C) (hJ : IvJ σ μ J) (hR : IvR σ μ S C) {p s : Nat} (hs : s < 2 ^ J) : nS σ p s ≤ 6 ∧ 4 ^ (6 - nS σ p s) * 4 ^ (nS σ p s + 1) = 16384 ∧ 0 < 4 ^ (6 - nS σ p s) ∧ 0 < 4 ^ (nS σ p s + 1) ∧ 4 ^ (nS σ p s + 1) ≤ 16384 ∧ Rt σ C p s ≤ 4 ^ (nS σ p s + 1) ∧ 4 ^ (6 - nS σ p s) * Rt σ C p s ≤ 16384 := by
  have hk := nS_le σ p s
  have hl := Rt_le hN hJ hR (p := p) hs
  have hall := pw_all (nS σ p s) hk
  have hpos := pw_pos (6 - nS σ p s)
  have hpos2 := pw_pos (nS σ p s + 1)
  refine ⟨hk, hall, hpos, hpos2, ?_, hl, ?_⟩
  · rw [← hall]; exact Nat.le_mul_of_pos_left _ hpos
  · rw [← hall]; exact Nat.mul_le_mul_left _ hl
theorem tkC {σ σ0 μ : St} {J P S C : Nat} (hN : IvN σ μ J P S C) (hJ : IvJ σ μ J) (hP : IvP σ μ J P) (hR : IvR σ μ S C) {p s : Nat} (hp : p < P) (hs64 : s < 2 ^ J) (h0 : sameC σ σ0) : ∃ σ', fX3_waysTaken σ0 (nI p) (nI s) = some (lN (4 ^ (6 - nS σ p s) * Rt σ C p s), σ') ∧ sameC σ σ' := by
  obtain ⟨σ1, a1, a2⟩ := takenC_spec hN hJ hP hR hp hs64 h0
  rw [Wt_eq] at a1
  exact ⟨σ1, a1, a2⟩
theorem tkM {σ μ μ' : St} {J P S C : Nat} (hN : IvN σ μ J P S C) (hJ : IvJ σ μ J) (hP : IvP σ μ J P) (hR : IvR σ μ S C) {p s : Nat} (hp : p < P) (hs64 : s < 2 ^ J) (hM : sameM μ μ') : ∃ μ'', fX9_takenOf μ' (nI p) (nI s) = some (lN (Rt σ C p s), μ'') ∧ sameM μ μ'' := takenM_spec hN hJ hP hR hp hs64 hM
theorem op_taken : Op_taken Inv := by
  intro σ μ hI a1 a2 a3
  obtain ⟨J, P, S, C, hN, hJ, hP, hM, hR⟩ := id hI
  obtain ⟨n1, n2, n3, n4, n5, n6, n7, n8, n9, n10, n11, n12⟩ := id hN
  have h64 := two_pow6 n1
  unfold fX8_taken fX9_taken fX8_taken_b28 fX8_taken_b29
  simp only [hasP_spec n7 n2, isP_spec n8 n2, areJ_spec n5 n1, isSet_spec n6 n1, part_spec, partM_spec, b_some, bI_ne0, refusal_spec n11, n12, i10, ↓reduceIte]
  by_cases c : 0 ≤ a1.toInt ∧ a1.toInt < P
  · simp only [if_pos c]
    by_cases c2 : 0 ≤ a2.toInt ∧ a2.toInt < (2 ^ J : Nat)
    · simp only [if_pos c2]
      by_cases d : 0 ≤ a3.toInt ∧ a3.toInt < 2
      · simp only [if_pos d]
        by_cases e : nI C = 0
        · simp only [if_pos e, im3, ↓reduceIte, lost3]
          exact ⟨_, _, _, rfl, rfl, hI⟩
        · simp only [if_neg e, ↓reduceIte]
          obtain ⟨p, hp, rfl⟩ := nI_ex (N := P) c (by omega)
          obtain ⟨s, hs, rfl⟩ := nI_ex (N := 2 ^ J) c2 (by omega)
          obtain ⟨σ1, a1, a2⟩ := tkC hN hJ hP hR hp hs (sameC.rf σ)
          obtain ⟨μ1, b1, b2⟩ := tkM hN hJ hP hR hp hs (sameM.rf μ)
          obtain ⟨hk, hall, hpos, hpos2, hle2, hl, hle⟩ := odds_num hN hJ hR (p := p) hs
          rw [a1, b1]
          refine ⟨FR (Rt σ C p s) (4 ^ (nS σ p s + 1)) a3, σ1, μ1, ?_, ?_, hI.same a2 b2⟩
          · rw [b_some]
            dsimp only
            rw [show (16384 : Int64) = lN 16384 from rfl, tell_spec σ1 (lT (n := 4 ^ (6 - nS σ p s) * Rt σ C p s) (by omega)) (by omega) (by omega) (by omega), b_some]
            dsimp only
            rw [← FR_scale (Rt σ C p s) (4 ^ (nS σ p s + 1)) a3 hpos hpos2, hall, Int.natCast_mul]
          · rw [b_some]
            dsimp only
            rw [allOf_spec hN hP hp hs b2, b_some]
            dsimp only
            rw [low_spec μ1 (lT (n := Rt σ C p s) (by omega)) (by omega) hpos2 (by omega), b_some]
      · simp only [if_neg d, im2, ↓reduceIte, lost2]
        exact ⟨_, _, _, rfl, rfl, hI⟩
    · simp only [if_neg c2, im2, ↓reduceIte, lost2]
      exact ⟨_, _, _, rfl, rfl, hI⟩
  · simp only [if_neg c, im1, ↓reduceIte, lost1, ite_self]
    exact ⟨_, _, _, rfl, rfl, hI⟩
