/-! ===== odds: sums over ways, pure ===== -/
def sN (f : Nat → Nat) : Nat → Nat
  | 0 => 0
  | k + 1 => sN f k + f k
theorem sN_congr {f g : Nat → Nat} : ∀ n, (∀ i, i < n → f i = g i) → sN f n = sN g n := by
  intro n
  induction n with
  | zero => intro _; rfl
  | succ n ih => intro h; simp only [sN]; rw [ih (fun i hi => h i (by omega)), h n (by omega)]
theorem sN_add (f g : Nat → Nat) : ∀ n, sN (fun i => f i + g i) n = sN f n + sN g n := by
  intro n
  induction n with
  | zero => rfl
  | succ n ih => simp only [sN]; rw [ih]; omega
theorem sN_mul (k : Nat) (f : Nat → Nat) : ∀ n, sN (fun i => k * f i) n = k * sN f n := by
  intro n
  induction n with
  | zero => rfl
  | succ n ih => simp only [sN]; rw [ih, Nat.mul_add]
theorem sN_one (s b : Nat) (F : Nat → Nat) (hb : b ≤ 5) : sN (fun v => (if b = v then s else 0) * F v) 6 = s * F b := by
  rcases (show b = 0 ∨ b = 1 ∨ b = 2 ∨ b = 3 ∨ b = 4 ∨ b = 5 by omega) with rfl | rfl | rfl | rfl | rfl | rfl
  all_goals simp +decide only [sN, ↓reduceIte, Nat.zero_mul, Nat.zero_add, Nat.add_zero]
theorem sN_3 (f : Nat → Nat) : ∀ n, sN f (3 * n) = sN (fun i => f (3 * i) + f (3 * i + 1) + f (3 * i + 2)) n := by
  intro n
  induction n with
  | zero => rfl
  | succ n ih =>
    rw [show 3 * (n + 1) = 3 * n + 1 + 1 + 1 by omega]
    simp only [sN]
    rw [ih]
    omega
def bt (s j : Nat) : Nat := s / 2 ^ j % 2
theorem bt_lt (s j : Nat) : bt s j < 2 := Nat.mod_lt _ (by omega)
theorem bt_out {s J j : Nat} (h : s < 2 ^ J) (hj : J ≤ j) : bt s j = 0 := by
  unfold bt
  rw [Nat.div_eq_of_lt (Nat.lt_of_lt_of_le h (Nat.pow_le_pow_right (by omega) hj))]
def nb (s : Nat) : Nat → Nat → Nat
  | 0, _ => 0
  | m + 1, j => bt s j + nb s m (j + 1)
theorem nb_le (s : Nat) : ∀ m j, nb s m j ≤ m := by
  intro m
  induction m with
  | zero => intro j; exact Nat.le_refl 0
  | succ m ih =>
    intro j
    have h1 := ih (j + 1)
    have h2 := bt_lt s j
    simp only [nb]
    omega
theorem nb_pad (s : Nat) : ∀ m d j, (∀ i, j + m ≤ i → bt s i = 0) → nb s (m + d) j = nb s m j := by
  intro m
  induction m with
  | zero =>
    intro d
    induction d with
    | zero => intro j _; rfl
    | succ d ih =>
      intro j h
      show bt s j + nb s (0 + d) (j + 1) = 0
      rw [ih (j + 1) (fun i hi => h i (by omega)), h j (by omega)]
      rfl
  | succ m ih =>
    intro d j h
    rw [show m + 1 + d = (m + d) + 1 by omega]
    simp only [nb]
    rw [ih d (j + 1) (fun i hi => h i (by omega))]
theorem nb_pc : ∀ s, s < 64 → nb s 6 0 = pc6 s := by decide +kernel
def wv (σ : St) (p : Nat) : Nat := (σ.1 14 p).toNatClampNeg
def mk (σ : St) (p j : Nat) (way : Nat) : Nat := bd (mt σ j p (wv σ p) + (way : Int) - 1)
theorem mk_le (σ : St) (p j way : Nat) : mk σ p j way < 6 := by
  have := bd_le (mt σ j p (wv σ p) + (way : Int) - 1)
  unfold mk
  omega
def Wc (σ : St) (C p s : Nat) : Nat → Nat → (Nat → Nat) → Nat
  | 0, _, c => qn σ C c
  | m + 1, j, c => if bt s j = 0 then 4 * Wc σ C p s m (j + 1) c else sN (fun v => wy σ j p (wv σ p) v * Wc σ C p s m (j + 1) (inc c v)) 6
def Rc (σ : St) (C p s : Nat) : Nat → Nat → (Nat → Nat) → Nat
  | 0, _, c => qn σ C c
  | m + 1, j, c => if bt s j = 0 then Rc σ C p s m (j + 1) c else qt (sl σ j) 0 * Rc σ C p s m (j + 1) (inc c (mk σ p j 0)) + qt (sl σ j) 1 * Rc σ C p s m (j + 1) (inc c (mk σ p j 1)) + qt (sl σ j) 2 * Rc σ C p s m (j + 1) (inc c (mk σ p j 2))
theorem wy_sum (σ : St) (j p w : Nat) (F : Nat → Nat) : sN (fun v => wy σ j p w v * F v) 6 = qt (sl σ j) 0 * F (bd (mt σ j p w + ((0 : Nat) : Int) - 1)) + qt (sl σ j) 1 * F (bd (mt σ j p w + ((1 : Nat) : Int) - 1)) + qt (sl σ j) 2 * F (bd (mt σ j p w + ((2 : Nat) : Int) - 1)) := by
  rw [show mt σ j p w + ((0 : Nat) : Int) - 1 = mt σ j p w - 1 by omega, show mt σ j p w + ((1 : Nat) : Int) - 1 = mt σ j p w by omega, show mt σ j p w + ((2 : Nat) : Int) - 1 = mt σ j p w + 1 by omega]
  have e : sN (fun v => wy σ j p w v * F v) 6 = sN (fun v => ((if bd (mt σ j p w - 1) = v then sl σ j else 0) * F v + (if bd (mt σ j p w) = v then 4 - 2 * sl σ j else 0) * F v) + (if bd (mt σ j p w + 1) = v then sl σ j else 0) * F v) 6 := by
    refine sN_congr 6 (fun v _ => ?_)
    unfold wy
    rw [Nat.add_mul, Nat.add_mul]
  rw [e, sN_add, sN_add, sN_one _ _ _ (bd_le _), sN_one _ _ _ (bd_le _), sN_one _ _ _ (bd_le _)]
  rfl
theorem W_R (σ : St) (C p s : Nat) : ∀ m j c, Wc σ C p s m j c = 4 ^ (m - nb s m j) * Rc σ C p s m j c := by
  intro m
  induction m with
  | zero => intro j c; simp [Wc, Rc]
  | succ m ih =>
    intro j c
    have hl := nb_le s m (j + 1)
    have hb := bt_lt s j
    simp only [Wc, Rc, nb]
    by_cases d : bt s j = 0
    · rw [if_pos d, if_pos d, ih, d, Nat.zero_add, show m + 1 - nb s m (j + 1) = (m - nb s m (j + 1)) + 1 by omega, Nat.pow_succ]
      simp only [Nat.mul_comm, Nat.mul_left_comm]
    · rw [if_neg d, if_neg d, show bt s j = 1 by omega, show m + 1 - (1 + nb s m (j + 1)) = m - nb s m (j + 1) by omega]
      rw [sN_congr (g := fun v => 4 ^ (m - nb s m (j + 1)) * (wy σ j p (wv σ p) v * Rc σ C p s m (j + 1) (inc c v))) 6 (fun v _ => by rw [ih]; exact Nat.mul_left_comm _ _ _), sN_mul, wy_sum σ j p (wv σ p) (fun v => Rc σ C p s m (j + 1) (inc c v))]
      rfl
theorem R_pad (σ : St) (C p s : Nat) : ∀ m d j c, (∀ i, j + m ≤ i → bt s i = 0) → Rc σ C p s (m + d) j c = Rc σ C p s m j c := by
  intro m
  induction m with
  | zero =>
    intro d
    induction d with
    | zero => intro j c _; rfl
    | succ d ih =>
      intro j c h
      show (if bt s j = 0 then Rc σ C p s (0 + d) (j + 1) c else _) = _
      rw [if_pos (h j (by omega)), ih (j + 1) c (fun i hi => h i (by omega))]
      rfl
  | succ m ih =>
    intro d j c h
    rw [show m + 1 + d = (m + d) + 1 by omega]
    simp only [Rc]
    simp only [ih d (j + 1) _ (fun i hi => h i (by omega))]
theorem R_le {σ μ : St} {J S C : Nat} (hJ : IvJ σ μ J) (hR : IvR σ μ S C) (p : Nat) {s : Nat} : ∀ m j c, j + m ≤ J → Rc σ C p s m j c ≤ 4 ^ (nb s m j + 1) := by
  intro m
  induction m with
  | zero => intro j c _; simp only [Rc, nb]; exact qn_le hR c
  | succ m ih =>
    intro j c h
    have hb := bt_lt s j
    have hs := (sl_val hJ (show j < J by omega)).1
    simp only [Rc, nb]
    by_cases d : bt s j = 0
    · rw [if_pos d, d, Nat.zero_add]; exact ih (j + 1) c (by omega)
    · rw [if_neg d, show bt s j = 1 by omega, show 1 + nb s m (j + 1) + 1 = (nb s m (j + 1) + 1) + 1 by omega, Nat.pow_succ 4 (nb s m (j + 1) + 1)]
      have h0 := ih (j + 1) (inc c (mk σ p j 0)) (by omega)
      have h1 := ih (j + 1) (inc c (mk σ p j 1)) (by omega)
      have h2 := ih (j + 1) (inc c (mk σ p j 2)) (by omega)
      have q0 : qt (sl σ j) 0 = sl σ j := rfl
      have q1 : qt (sl σ j) 1 = 4 - 2 * sl σ j := rfl
      have q2 : qt (sl σ j) 2 = sl σ j := rfl
      rw [q0, q1, q2]
      generalize 4 ^ (nb s m (j + 1) + 1) = K at *
      have a0 := Nat.mul_le_mul_left (sl σ j) h0
      have a1 := Nat.mul_le_mul_left (4 - 2 * sl σ j) h1
      have a2 := Nat.mul_le_mul_left (sl σ j) h2
      have e : K * 4 = sl σ j * K + (4 - 2 * sl σ j) * K + sl σ j * K := by
        rw [← Nat.add_mul, ← Nat.add_mul, show sl σ j + (4 - 2 * sl σ j) + sl σ j = 4 by omega, Nat.mul_comm]
      omega
def Tc (σ : St) (C p s : Nat) : Nat → Nat → (Nat → Nat) → Nat → Nat → Nat
  | 0, _, c, o, _ => o * qn σ C c
  | m + 1, j, c, o, l => if bt s j = 0 then Tc σ C p s m (j + 1) c o l else Tc σ C p s m (j + 1) (inc c (mk σ p j (l % 3))) (o * qt (sl σ j) (l % 3)) (l / 3)
theorem T_R (σ : St) (C p s : Nat) : ∀ m j c o, sN (fun w => Tc σ C p s m j c o w) (3 ^ nb s m j) = o * Rc σ C p s m j c := by
  intro m
  induction m with
  | zero => intro j c o; simp [sN, nb, Tc, Rc]
  | succ m ih =>
    intro j c o
    have hb := bt_lt s j
    simp only [Tc, Rc, nb]
    by_cases d : bt s j = 0
    · simp only [if_pos d]
      rw [d, Nat.zero_add]
      exact ih (j + 1) c o
    · simp only [if_neg d]
      rw [show bt s j = 1 by omega, Nat.add_comm 1, Nat.pow_succ, Nat.mul_comm _ 3, sN_3]
      rw [sN_congr (g := fun i => Tc σ C p s m (j + 1) (inc c (mk σ p j 0)) (o * qt (sl σ j) 0) i + Tc σ C p s m (j + 1) (inc c (mk σ p j 1)) (o * qt (sl σ j) 1) i + Tc σ C p s m (j + 1) (inc c (mk σ p j 2)) (o * qt (sl σ j) 2) i) _ (fun i _ => by
        rw [show 3 * i % 3 = 0 by omega, show 3 * i / 3 = i by omega, show (3 * i + 1) % 3 = 1 by omega, show (3 * i + 1) / 3 = i by omega, show (3 * i + 2) % 3 = 2 by omega, show (3 * i + 2) / 3 = i by omega])]
      rw [sN_add (fun i => Tc σ C p s m (j + 1) (inc c (mk σ p j 0)) (o * qt (sl σ j) 0) i + Tc σ C p s m (j + 1) (inc c (mk σ p j 1)) (o * qt (sl σ j) 1) i), sN_add, ih, ih, ih, Nat.mul_add, Nat.mul_add, Nat.mul_assoc, Nat.mul_assoc, Nat.mul_assoc]
/-! the class's way -/
theorem bit_val : ∀ s, s < 64 → ∀ j, j < 6 → ((nI s >>> (nI j &&& 31)) &&& 1) = nI (bt s j) := by decide +kernel
theorem hasBit_spec (σ : St) {s j : Nat} (hs : s < 64) (hj : j < 6) : fX8_hasBit σ (nI s) (nI j) = some (nI (bt s j), σ) := by
  unfold fX8_hasBit
  rw [bit_val s hs j hj]
  have := bt_lt s j
  by_cases h : bt s j = 0
  · rw [h, if_neg (by decide)]; rfl
  · rw [show bt s j = 1 by omega, if_pos (show nI 1 = 1 from rfl)]; rfl
theorem put_back_9 {σ0 σ : St} (hs : sameC σ0 σ) {c : Nat → Nat} {v : Nat} (hv : v < 6) (hT : TO_9 σ (inc c v)) : ∃ σ', fX7_put_9 σ (nI v) (-1) = some ((), σ') ∧ TO_9 σ' c ∧ sameC σ0 σ' ∧ σ'.1 25 = σ.1 25 := by
  obtain ⟨t1, t2, t3⟩ := hT
  obtain ⟨p1, p2⟩ := inc_pre c hv
  unfold fX7_put_9
  rw [if_pos (ib_nI (show v < 6 by omega) (by omega)), if_pos (ib_nI (show v < 6 by omega) (by omega)), nI_clamp (n := v) (by omega)]
  refine ⟨_, rfl, ⟨?_, ?_, ?_⟩, ?_, ?_⟩
  · intro u hu
    show upd (σ.1 26) v (σ.1 26 v + -1) u = nI (c u)
    have hvv := t1 v hv
    have huu := t1 u hu
    unfold inc at hvv huu
    by_cases e : u = v
    · subst e
      rw [if_pos rfl] at hvv
      rw [pk_us, hvv]
      exact pk_m1 _
    · rw [if_neg e] at huu
      rw [pk_un e, huu]
  · refine Eq.trans (show _ = σ.2.1 6 + -1 from rfl) ?_
    rw [t2, p1]
    exact pk_m1 _
  · refine Eq.trans (show _ = σ.2.1 7 + nI v * -1 from rfl) ?_
    have k1 : ∀ v, v < 6 → nI v * -1 = - nI v := by decide +kernel
    rw [t3, p2, k1 v hv, ← Int32.sub_eq_add_neg, pk_sub (by omega)]
    congr 1
    omega
  · exact sC_uI (sC_uI (sC_uA hs (by omega) _ _) (by omega) _) (by omega) _
  · rfl
def Lay (σ : St) (p : Nat) (σ' : St) (N : Nat) : Prop := ∀ i, i < N → σ'.1 25 i = nI (wy σ (i / 6) p (wv σ p) (i % 6))
theorem lay_l15 {σ μ : St} {J P : Nat} (hn : σ.2.1 0 = nI J) (hJ : IvJ σ μ J) (hP : IvP σ μ J P) (h6 : J ≤ 6) (p6 : P ≤ 6) {j p : Nat} (hj : j < J) (hp : p < P) {c : Nat → Nat} (rc : St → Int32 → Int32 → Option (Unit × St)) : ∀ (n k : Nat) (σ' : St), k ≤ 6 → 6 - k < n → sameC σ σ' → TO_9 σ' c → Lay σ p σ' (6 * j + k) → ∃ σ'', fX3_layOutWays_l15 rc n σ' (nI p) (nI j) (nI k) = rc σ'' (nI p) (nI (j + 1)) ∧ sameC σ σ'' ∧ TO_9 σ'' c ∧ Lay σ p σ'' (6 * (j + 1)) := by
  intro n
  induction n with
  | zero => intro k σ' h1 h2; omega
  | succ n ih =>
    intro k σ' h1 h2 hs hT hL
    show ∃ σ'', fX3_layOutWays_b15 rc (fX3_layOutWays_l15 rc n) σ' (nI p) (nI j) (nI k) = _ ∧ _
    unfold fX3_layOutWays_b15
    by_cases h : k = 6
    · subst h
      rw [if_pos (show (5 : Int32) < nI 6 by decide), show nI j + (1 : Int32) = nI (j + 1) from nI_1 j]
      exact ⟨σ', rfl, hs, hT, by rw [show 6 * (j + 1) = 6 * j + 6 by omega]; exact hL⟩
    · obtain ⟨w1, w2⟩ := hP.1 p hp
      obtain ⟨w, e1, e2⟩ := nI_rng (n := 5) w2 (by omega)
      have ew : wv σ p = w := by unfold wv; rw [w1, e2, nI_clamp (by omega)]
      have hw : σ'.1 14 p = nI (wv σ p) := by rw [hs.1 14 (by omega), w1, ew, e2]
      rw [if_neg (show ¬ (5 : Int32) < nI k from fun q => by have := Int32.lt_iff_toInt_lt.mp q; rw [nI_toInt (by omega)] at this; have e : (5 : Int32).toInt = 5 := rfl; omega), if_pos (ib_nI (show p < 6 by omega) (by omega)), nI_clamp (n := p) (by omega), hw, ways_spec hs hn hJ hP h6 p6 hj hp (show wv σ p ≤ 5 by omega) (show k ≤ 5 by omega), b_some]
      dsimp only
      rw [at6, if_pos (ib_nI (show 6 * j + k < 36 by omega) (by omega)), nI_clamp (n := 6 * j + k) (by omega), show nI k + (1 : Int32) = nI (k + 1) from nI_1 k]
      refine ih (k + 1) _ (by omega) (by omega) (sC_uA hs (by omega) _ _) ⟨hT.1, hT.2.1, hT.2.2⟩ ?_
      intro i hi
      show upd (σ'.1 25) (6 * j + k) (nI (wy σ j p (wv σ p) k)) i = _
      by_cases e : i = 6 * j + k
      · subst e
        rw [pk_us, show (6 * j + k) / 6 = j by omega, show (6 * j + k) % 6 = k by omega]
      · rw [pk_un e]
        exact hL i (by omega)
theorem lay_l2 {σ μ : St} {J P : Nat} (hn : σ.2.1 0 = nI J) (hJ : IvJ σ μ J) (hP : IvP σ μ J P) (h6 : J ≤ 6) (p6 : P ≤ 6) {p : Nat} (hp : p < P) {c : Nat → Nat} : ∀ (n j : Nat) (σ' : St), j ≤ J → J - j < n → sameC σ σ' → TO_9 σ' c → Lay σ p σ' (6 * j) → ∃ σ'', fX3_layOutWays_l2 n σ' (nI p) (nI j) = some ((), σ'') ∧ sameC σ σ'' ∧ TO_9 σ'' c ∧ Lay σ p σ'' (6 * J) := by
  intro n
  induction n with
  | zero => intro j σ' h1 h2; omega
  | succ n ih =>
    intro j σ' h1 h2 hs hT hL
    show ∃ σ'', fX3_layOutWays_b2 (fX3_layOutWays_l2 n) σ' (nI p) (nI j) = _ ∧ _
    unfold fX3_layOutWays_b2
    rw [hs.2 0 (by omega), hn]
    by_cases h : j = J
    · subst h
      rw [if_pos (nI_le (Nat.le_refl j) (by omega))]
      exact ⟨σ', rfl, hs, hT, hL⟩
    · rw [if_neg (nI_ge (show j < J by omega) (by omega))]
      obtain ⟨σ1, a1, a2, a3, a4⟩ := lay_l15 hn hJ hP h6 p6 (show j < J by omega) hp (c := c) (fX3_layOutWays_l2 n) gF 0 σ' (by omega) (by simp [gF]) hs hT hL
      obtain ⟨σ2, b1, b2⟩ := ih (j + 1) σ1 (by omega) (by omega) a2 a3 a4
      exact ⟨σ2, a1.trans b1, b2⟩
theorem wf_l {σ μ : St} {J P S C : Nat} (hN : IvN σ μ J P S C) (hJ : IvJ σ μ J) (hR : IvR σ μ S C) {p s : Nat} (hs64 : s < 2 ^ J) : ∀ (m d j : Nat) (σ' : St) (c : Nat → Nat), j + m = 6 → m < d → sameC σ σ' → TO_9 σ' c → Lay σ p σ' (6 * J) → pre c 6 ≤ j → ∃ σ'', fX3_waysFrom_n d σ' (nI j) (nI s) = some (lN (Wc σ C p s m j c), σ'') ∧ sameC σ σ'' ∧ TO_9 σ'' c ∧ Lay σ p σ'' (6 * J) := by
  obtain ⟨n1, n2, n3, n4, n5, n6, n7, n8, n9, n10, n11, n12⟩ := id hN
  have hs : s < 64 := Nat.lt_of_lt_of_le hs64 (Nat.pow_le_pow_right (n := 2) (by omega) n1)
  intro m
  induction m with
  | zero =>
    intro d j σ' c h1 h2 hC hT hL hc
    obtain ⟨d, rfl⟩ : ∃ i, d = i + 1 := ⟨d - 1, by omega⟩
    show ∃ σ'', fX3_waysFrom_f (fX3_waysFrom_n d) σ' (nI j) (nI s) = _ ∧ _
    unfold fX3_waysFrom_f
    have hq := qn_le hR c
    rw [show j = 6 by omega, if_neg (show ¬ nI 6 < (6 : Int32) by decide), qn_spec_9 hC n11 hR n4 hT (by omega), b_some]
    dsimp only
    rw [n2l (by omega)]
    exact ⟨σ', rfl, hC, hT, hL⟩
  | succ m ih =>
    intro d j σ' c h1 h2 hC hT hL hc
    obtain ⟨d, rfl⟩ : ∃ i, d = i + 1 := ⟨d - 1, by omega⟩
    show ∃ σ'', fX3_waysFrom_f (fX3_waysFrom_n d) σ' (nI j) (nI s) = _ ∧ _
    unfold fX3_waysFrom_f
    have hb := bt_lt s j
    have e1 : nI j + (1 : Int32) = nI (j + 1) := nI_1 j
    rw [if_pos (show nI j < (6 : Int32) from nI_lt (b := 6) (by omega) (by omega)), hasBit_spec σ' hs (show j < 6 by omega), b_some]
    dsimp only
    simp only [Wc]
    by_cases hz : bt s j = 0
    · rw [if_pos ((nI_z (by omega)).mpr hz), if_pos hz, e1]
      obtain ⟨σ1, a1, a2⟩ := ih d (j + 1) σ' c (by omega) (by omega) hC hT hL (by omega)
      rw [a1, b_some]
      refine ⟨σ1, ?_, a2⟩
      dsimp only
      rw [show (4 : Int64) = lN 4 from rfl, lN_mul]
    · rw [if_neg (fun q => hz ((nI_z (by omega)).mp q)), if_neg hz]
      have hjJ : j < J := by
        by_cases q : J ≤ j
        · exact absurd (bt_out hs64 q) hz
        · omega
      have lp : ∀ (n k : Nat) (σ' : St), k ≤ 6 → 6 - k < n → sameC σ σ' → TO_9 σ' c → Lay σ p σ' (6 * J) → ∃ σ'', fX3_waysFrom_l45 (fX3_waysFrom_n d) n σ' (nI j) (nI s) (lN (sN (fun v => wy σ j p (wv σ p) v * Wc σ C p s m (j + 1) (inc c v)) k)) (nI k) = some (lN (sN (fun v => wy σ j p (wv σ p) v * Wc σ C p s m (j + 1) (inc c v)) 6), σ'') ∧ sameC σ σ'' ∧ TO_9 σ'' c ∧ Lay σ p σ'' (6 * J) := by
        intro n
        induction n with
        | zero => intro k σ' h1 h2; omega
        | succ n ihn =>
          intro k σ' h1 h2 hC hT hL
          show ∃ σ'', fX3_waysFrom_b45 (fX3_waysFrom_n d) (fX3_waysFrom_l45 (fX3_waysFrom_n d) n) σ' (nI j) (nI s) _ (nI k) = _ ∧ _
          unfold fX3_waysFrom_b45 fX3_waysFrom_b105
          by_cases h : k = 6
          · subst h
            rw [if_pos (show (5 : Int32) < nI 6 by decide)]
            exact ⟨σ', rfl, hC, hT, hL⟩
          · have hkl : k < 6 := by omega
            have hwl := wy_le hJ hjJ p (wv σ p) k
            have hl := hL (6 * j + k) (by omega)
            rw [show (6 * j + k) / 6 = j by omega, show (6 * j + k) % 6 = k by omega] at hl
            rw [if_neg (show ¬ (5 : Int32) < nI k from fun q => by have := Int32.lt_iff_toInt_lt.mp q; rw [nI_toInt (by omega)] at this; have e : (5 : Int32).toInt = 5 := rfl; omega), at6, if_pos (ib_nI (show 6 * j + k < 36 by omega) (by omega)), nI_clamp (n := 6 * j + k) (by omega), hl, e1, show nI k + (1 : Int32) = nI (k + 1) from nI_1 k, n2l (by omega)]
            by_cases hy : wy σ j p (wv σ p) k = 0
            · rw [if_pos (show nI (wy σ j p (wv σ p) k) ≤ 0 by rw [hy]; decide)]
              have := ihn (k + 1) σ' (by omega) (by omega) hC hT hL
              rw [show sN (fun v => wy σ j p (wv σ p) v * Wc σ C p s m (j + 1) (inc c v)) (k + 1) = sN (fun v => wy σ j p (wv σ p) v * Wc σ C p s m (j + 1) (inc c v)) k + wy σ j p (wv σ p) k * Wc σ C p s m (j + 1) (inc c k) from rfl, hy, Nat.zero_mul, Nat.add_zero] at this
              exact this
            · rw [if_neg (show ¬ nI (wy σ j p (wv σ p) k) ≤ 0 from nI_ge (a := 0) (by omega) (by omega))]
              obtain ⟨σ1, a1, a2, a3, a4⟩ := put_spec_9 hC hT hkl
              rw [a1, b_some]
              dsimp only
              obtain ⟨b1, b2, b3, b4, b5⟩ := ih d (j + 1) σ1 (inc c k) (by omega) (by omega) a3 a2 (fun i hi => by rw [a4]; exact hL i hi) (by rw [(inc_pre c hkl).1]; omega)
              rw [b2, b_some]
              dsimp only
              obtain ⟨σ3, c1, c2, c3, c4⟩ := put_back_9 b3 hkl b4
              rw [c1, b_some]
              dsimp only
              have := ihn (k + 1) σ3 (by omega) (by omega) c3 c2 (fun i hi => by rw [c4]; exact b5 i hi)
              rw [show sN (fun v => wy σ j p (wv σ p) v * Wc σ C p s m (j + 1) (inc c v)) (k + 1) = sN (fun v => wy σ j p (wv σ p) v * Wc σ C p s m (j + 1) (inc c v)) k + wy σ j p (wv σ p) k * Wc σ C p s m (j + 1) (inc c k) from rfl] at this
              rw [lN_mul, lN_add]
              exact this
      exact lp gF 0 σ' (by omega) (by simp [gF]) hC hT hL
def wo (σ : St) (p s : Nat) : Nat := if σ.1 15 p = -6 then s else s - bt s (σ.1 15 p).toNatClampNeg * 2 ^ (σ.1 15 p).toNatClampNeg
theorem wo_le (σ : St) (p s : Nat) : wo σ p s ≤ s := by
  unfold wo
  by_cases h : σ.1 15 p = -6
  · rw [if_pos h]; omega
  · rw [if_neg h]; omega
theorem clr_val : ∀ s, s < 64 → ∀ w, w < 6 → nI s &&& (((1 : Int32) <<< (nI w &&& 31)) ^^^ (-1)) = nI (s - bt s w * 2 ^ w) := by decide +kernel
theorem withoutC_spec {σ σ' μ : St} {J P : Nat} (hs : sameC σ σ') (hP : IvP σ μ J P) (h6 : J ≤ 6) (p6 : P ≤ 6) {p s : Nat} (hp : p < P) (h64 : s < 64) : fX4_withoutWriter σ' (nI p) (nI s) = some (nI (wo σ p s), σ') := by
  unfold fX4_withoutWriter wo
  obtain ⟨w1, w2⟩ := hP.2.1 p hp
  rw [if_pos (ib_nI (show p < 6 by omega) (by omega)), nI_clamp (n := p) (by omega), hs.1 15 (by omega)]
  by_cases h : σ.1 15 p = -6
  · rw [if_pos h, if_pos h]
  · rw [if_neg h, if_neg h]
    rcases w2 with q | ⟨w, hw, q⟩
    · exact absurd (w1.trans q) h
    · rw [w1, q, nI_clamp (by omega), clr_val s h64 w (by omega)]
theorem withoutM_spec {σ μ μ' : St} {J P : Nat} (hs : sameM μ μ') (hP : IvP σ μ J P) (h6 : J ≤ 6) (p6 : P ≤ 6) {p s : Nat} (hp : p < P) (h64 : s < 64) : fX9_without μ' (nI p) (nI s) = some (nI (wo σ p s), μ') := by
  unfold fX9_without wo
  obtain ⟨w1, w2⟩ := hP.2.1 p hp
  rw [if_pos (ib_nI (show p < 6 by omega) (by omega)), if_pos (ib_nI (show p < 6 by omega) (by omega)), nI_clamp (n := p) (by omega), hs.1 6 (by omega), ← w1]
  by_cases h : σ.1 15 p = -6
  · rw [if_pos h, if_pos h]
  · rw [if_neg h, if_neg h]
    rcases w2 with q | ⟨w, hw, q⟩
    · exact absurd (w1.trans q) h
    · rw [w1, q, nI_clamp (by omega), clr_val s h64 w (by omega)]
theorem takenC_spec {σ σ0 μ : St} {J P S C : Nat} (hN : IvN σ μ J P S C) (hJ : IvJ σ μ J) (hP : IvP σ μ J P) (hR : IvR σ μ S C) {p s : Nat} (hp : p < P) (hs64 : s < 2 ^ J) (h0 : sameC σ σ0) : ∃ σ', fX3_waysTaken σ0 (nI p) (nI s) = some (lN (Wc σ C p (wo σ p s) 6 0 (fun _ => 0)), σ') ∧ sameC σ σ' := by
  obtain ⟨n1, n2, n3, n4, n5, n6, n7, n8, n9, n10, n11, n12⟩ := id hN
  have hs : s < 64 := Nat.lt_of_lt_of_le hs64 (Nat.pow_le_pow_right (n := 2) (by omega) n1)
  have hwl := wo_le σ p s
  unfold fX3_waysTaken
  obtain ⟨σ1, a1, a2, a3⟩ := clear_spec_9 h0
  obtain ⟨σ2, b1, b2, b3, b4⟩ := lay_l2 n5 hJ hP n1 n2 hp gF 0 σ1 (by omega) (by simp [gF]; omega) a3 a2 (fun i hi => absurd hi (by omega))
  obtain ⟨σ3, c1, c2, c3⟩ := wf_l hN hJ hR (p := p) (show wo σ p s < 2 ^ J by omega) 6 8 0 σ2 (fun _ => 0) rfl (by omega) b2 b3 b4 (Nat.le_refl 0)
  rw [a1, b_some]
  dsimp only
  rw [show fX3_layOutWays σ1 (nI p) = _ from b1, b_some]
  dsimp only
  rw [withoutC_spec b2 hP n1 n2 hp hs, b_some]
  dsimp only
  rw [show fX3_waysFrom σ2 0 (nI (wo σ p s)) = _ from c1, b_some]
  exact ⟨σ3, rfl, c2⟩
