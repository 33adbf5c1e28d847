/-! ===== match: the best by potentials ===== -/
def sI (f : Nat → Int) : Nat → Int
  | 0 => 0
  | k + 1 => sI f k + f k
theorem sI_congr {f g : Nat → Int} : ∀ n, (∀ i, i < n → f i = g i) → sI f n = sI g n := by
  intro n
  induction n with
  | zero => intro _; rfl
  | succ n ih => intro h; simp only [sI]; rw [ih (fun i hi => h i (by omega)), h n (by omega)]
theorem sI_le {f g : Nat → Int} : ∀ n, (∀ i, i < n → f i ≤ g i) → sI f n ≤ sI g n := by
  intro n
  induction n with
  | zero => intro _; exact Int.le_refl 0
  | succ n ih =>
    intro h
    simp only [sI]
    have h1 := ih (fun i hi => h i (by omega))
    have h2 := h n (by omega)
    omega
theorem sI_add (f g : Nat → Int) : ∀ n, sI (fun i => f i + g i) n = sI f n + sI g n := by
  intro n
  induction n with
  | zero => rfl
  | succ n ih => simp only [sI]; rw [ih]; omega
theorem sI_sub (f g : Nat → Int) : ∀ n, sI (fun i => f i - g i) n = sI f n - sI g n := by
  intro n
  induction n with
  | zero => rfl
  | succ n ih => simp only [sI]; rw [ih]; omega
theorem sI_mul (k : Int) (f : Nat → Int) : ∀ n, sI (fun i => k * f i) n = k * sI f n := by
  intro n
  induction n with
  | zero => simp [sI]
  | succ n ih => simp only [sI]; rw [ih, Int.mul_add]
theorem sI_0 : ∀ n, sI (fun _ => 0) n = 0 := by
  intro n
  induction n with
  | zero => rfl
  | succ n ih => simp only [sI]; rw [ih]; rfl
theorem sI_swap (f : Nat → Nat → Int) (J : Nat) : ∀ P, sI (fun p => sI (fun j => f p j) J) P = sI (fun j => sI (fun p => f p j) P) J := by
  intro P
  induction P with
  | zero => simp only [sI]; exact (sI_0 J).symm
  | succ P ih =>
    simp only [sI]
    rw [ih, ← sI_add]
theorem sI_nat (f : Nat → Nat) : ∀ n, sI (fun i => (f i : Int)) n = (sN f n : Int) := by
  intro n
  induction n with
  | zero => rfl
  | succ n ih => simp only [sI, sN]; rw [ih]; omega
theorem dual (d g : Nat → Nat → Int) (Y Z : Nat → Int) (P J : Nat) (h : ∀ p j, p < P → j < J → d p j * g p j ≤ Z j * d p j - Y p * d p j) : sI (fun p => sI (fun j => d p j * g p j) J) P ≤ sI (fun j => Z j * sI (fun p => d p j) P) J - sI (fun p => Y p * sI (fun j => d p j) J) P := by
  have h1 : sI (fun p => sI (fun j => d p j * g p j) J) P ≤ sI (fun p => sI (fun j => Z j * d p j) J - sI (fun j => Y p * d p j) J) P := by
    refine sI_le P (fun p hp => ?_)
    rw [← sI_sub]
    exact sI_le J (fun j hj => h p j hp hj)
  rw [sI_sub, sI_swap (fun p j => Z j * d p j)] at h1
  rw [sI_congr (g := fun j => Z j * sI (fun p => d p j) P) J (fun j _ => sI_mul (Z j) (fun p => d p j) P), sI_congr (g := fun p => Y p * sI (fun j => d p j) J) P (fun p _ => sI_mul (Y p) (fun j => d p j) J)] at h1
  exact h1
/-- a full giving: every paper has its k judges, all allowed, no load above l -/
def Fs (σ : St) (P J k l : Nat) (X : Nat → Nat) : Prop := (∀ p, p < P → X p < 2 ^ J ∧ sN (fun j => bt (X p) j) J = k ∧ ∀ j, j < J → bt (X p) j = 1 → al σ p j) ∧ (∀ j, j < J → sN (fun p => bt (X p) j) P ≤ l)
def wt (σ : St) (P J : Nat) (X : Nat → Nat) : Int := sI (fun p => sI (fun j => (bt (X p) j : Int) * wI σ p j) J) P
def df (X s : Nat → Nat) (p j : Nat) : Int := (bt (X p) j : Int) - (bt (s p) j : Int)
theorem df_cases (X s : Nat → Nat) (p j : Nat) : (bt (X p) j = bt (s p) j ∧ df X s p j = 0) ∨ (bt (X p) j = 1 ∧ bt (s p) j = 0 ∧ df X s p j = 1) ∨ (bt (X p) j = 0 ∧ bt (s p) j = 1 ∧ df X s p j = -1) := by
  have h1 := bt_lt (X p) j
  have h2 := bt_lt (s p) j
  unfold df
  omega
theorem df_row (X s : Nat → Nat) (p J : Nat) : sI (fun j => df X s p j) J = (sN (fun j => bt (X p) j) J : Int) - (sN (fun j => bt (s p) j) J : Int) := by
  unfold df
  rw [sI_sub, sI_nat, sI_nat]
theorem df_col (X s : Nat → Nat) (j P : Nat) : sI (fun p => df X s p j) P = (sN (fun p => bt (X p) j) P : Int) - (sN (fun p => bt (s p) j) P : Int) := by
  unfold df
  rw [sI_sub, sI_nat, sI_nat]
theorem wt_df (σ : St) (P J : Nat) (X s : Nat → Nat) : wt σ P J X - wt σ P J s = sI (fun p => sI (fun j => df X s p j * wI σ p j) J) P := by
  unfold wt df
  rw [← sI_sub]
  refine sI_congr P (fun p _ => ?_)
  rw [← sI_sub]
  refine sI_congr J (fun j _ => ?_)
  rw [Int.sub_mul]
theorem opt_all {σ : St} {P J k l : Nat} {s : Nat → Nat} {Pi : Nat → Int} {M : Int} (hPot : Pot (Ec σ P J s) Pi) (hs : Fs σ P J k l s) (hM : ∀ j, j < J → (sN (fun p => bt (s p) j) P < l → Pi (6 + j) ≤ M) ∧ (0 < sN (fun p => bt (s p) j) P → M ≤ Pi (6 + j))) {X : Nat → Nat} (hX : Fs σ P J k l X) : wt σ P J X ≤ wt σ P J s := by
  have h := dual (df X s) (wI σ) Pi (fun j => Pi (6 + j)) P J (by
    intro p j hp hj
    rcases df_cases X s p j with ⟨-, e⟩ | ⟨e1, e2, e⟩ | ⟨e1, e2, e⟩
    · rw [e]; omega
    · have ha := (hX.1 p hp).2.2 j hj e1
      have := hPot p j p (6 + j) (wI σ p j) ⟨hp, hj, Or.inr ⟨e2, ha, rfl, rfl, rfl⟩⟩
      rw [e]; omega
    · have := hPot p j (6 + j) p (- wI σ p j) ⟨hp, hj, Or.inl ⟨e2, rfl, rfl, rfl⟩⟩
      rw [e]; omega)
  rw [← wt_df] at h
  have h2 : sI (fun p => Pi p * sI (fun j => df X s p j) J) P = 0 := by
    rw [sI_congr (g := fun _ => 0) P (fun p hp => by rw [df_row, (hX.1 p hp).2.1, (hs.1 p hp).2.1, Int.sub_self, Int.mul_zero]), sI_0]
  have h3 : sI (fun j => sI (fun p => df X s p j) P) J = 0 := by
    rw [← sI_swap, sI_congr (g := fun _ => 0) P (fun p hp => by rw [df_row, (hX.1 p hp).2.1, (hs.1 p hp).2.1, Int.sub_self]), sI_0]
  have h4 : sI (fun j => Pi (6 + j) * sI (fun p => df X s p j) P) J ≤ sI (fun j => M * sI (fun p => df X s p j) P) J := by
    refine sI_le J (fun j hj => ?_)
    rw [df_col]
    have hl := hX.2 j hj
    obtain ⟨m1, m2⟩ := hM j hj
    rcases (show sN (fun p => bt (X p) j) P = sN (fun p => bt (s p) j) P ∨ sN (fun p => bt (s p) j) P < sN (fun p => bt (X p) j) P ∨ sN (fun p => bt (X p) j) P < sN (fun p => bt (s p) j) P by omega) with q | q | q
    · rw [q, Int.sub_self, Int.mul_zero, Int.mul_zero]; exact Int.le_refl 0
    · exact Int.mul_le_mul_of_nonneg_right (m1 (by omega)) (by omega)
    · exact Int.mul_le_mul_of_nonpos_right (m2 (by omega)) (by omega)
  rw [sI_mul, h3, Int.mul_zero] at h4
  omega
theorem no_full {σ : St} {P J k l : Nat} {s wn : Nat → Nat} {val : Nat → Int} {pr : Nat → Nat} (p6 : P ≤ 6) (j6 : J ≤ 6) (hSp : Sp (Ec σ P J s) (fun v => v < 6 ∧ 0 < wn v) val pr) (hdeg : ∀ p, p < P → wn p + sN (fun j => bt (s p) j) J = k) (hfull : ∀ j, j < J → sN (fun p => bt (s p) j) P < l → val (6 + j) = UU) {p0 : Nat} (hp0 : p0 < P) (hw0 : 0 < wn p0) (hw : ∀ p j, p < P → j < J → -274877906944 ≤ wI σ p j ∧ wI σ p j ≤ 274877906944) {X : Nat → Nat} (hX : Fs σ P J k l X) : False := by
  obtain ⟨c1, -, c3, c4⟩ := hSp
  have h := dual (df X s) (fun _ _ => 0) (fun p => if val p = UU then 0 else 1) (fun j => if val (6 + j) = UU then 0 else 1) P J (by
    intro p j hp hj
    have hwr := hw p j hp hj
    rcases df_cases X s p j with ⟨-, e⟩ | ⟨e1, e2, e⟩ | ⟨e1, e2, e⟩
    · rw [e]; omega
    · have ha := (hX.1 p hp).2.2 j hj e1
      rw [e]
      by_cases q : val p = UU
      · rw [if_pos q]
        by_cases q2 : val (6 + j) = UU
        · rw [if_pos q2]; omega
        · rw [if_neg q2]; omega
      · have := c1 p j p (6 + j) (wI σ p j) ⟨hp, hj, Or.inr ⟨e2, ha, rfl, rfl, rfl⟩⟩ q
        have hb := c3 p (by omega) q
        rw [if_neg q, if_neg (show ¬ val (6 + j) = UU by unfold UU; omega)]
        omega
    · rw [e]
      by_cases q : val (6 + j) = UU
      · rw [if_pos q]
        by_cases q2 : val p = UU
        · rw [if_pos q2]; omega
        · rw [if_neg q2]; omega
      · have := c1 p j (6 + j) p (- wI σ p j) ⟨hp, hj, Or.inl ⟨e2, rfl, rfl, rfl⟩⟩ q
        have hb := c3 (6 + j) (by omega) q
        rw [if_neg q, if_neg (show ¬ val p = UU by unfold UU; omega)]
        omega)
  have e0 : sI (fun p => sI (fun j => df X s p j * 0) J) P = 0 := by
    rw [sI_congr (g := fun _ => 0) P (fun p _ => by rw [sI_congr (g := fun _ => 0) J (fun j _ => Int.mul_zero _), sI_0]), sI_0]
  rw [e0] at h
  have h1 : sI (fun j => (if val (6 + j) = UU then (0 : Int) else 1) * sI (fun p => df X s p j) P) J ≤ sI (fun _ => 0) J := by
    refine sI_le J (fun j hj => ?_)
    by_cases q : val (6 + j) = UU
    · rw [if_pos q, Int.zero_mul]; exact Int.le_refl 0
    · rw [if_neg q, Int.one_mul, df_col]
      have hl := hX.2 j hj
      have : ¬ sN (fun p => bt (s p) j) P < l := fun z => q (hfull j hj z)
      omega
  rw [sI_0] at h1
  have h2 : sI (fun p => if p = p0 then (1 : Int) else 0) P ≤ sI (fun p => (if val p = UU then (0 : Int) else 1) * sI (fun j => df X s p j) J) P := by
    refine sI_le P (fun p hp => ?_)
    have hd := hdeg p hp
    have hx := (hX.1 p hp).2.1
    rw [df_row, hx]
    by_cases q : p = p0
    · subst q
      have hv := c4 p (by omega) ⟨by omega, hw0⟩
      rw [if_pos rfl, if_neg (show ¬ val p = UU by unfold UU; omega), Int.one_mul]
      omega
    · rw [if_neg q]
      by_cases q2 : val p = UU
      · rw [if_pos q2, Int.zero_mul]; exact Int.le_refl 0
      · rw [if_neg q2, Int.one_mul]; omega
  have h3 : ∀ n, sI (fun p => if p = p0 then (1 : Int) else 0) n = if p0 < n then 1 else 0 := by
    intro n
    induction n with
    | zero => rw [if_neg (by omega)]; rfl
    | succ n ih =>
      simp only [sI]
      rw [ih]
      by_cases q : n = p0
      · subst q
        rw [if_neg (by omega), if_pos rfl, if_pos (by omega)]; rfl
      · rw [if_neg q]
        by_cases q2 : p0 < n
        · rw [if_pos q2, if_pos (by omega)]; rfl
        · rw [if_neg q2, if_neg (by omega)]; rfl
  rw [h3, if_pos hp0] at h2
  omega
/-- new potentials out of the gains and the old ones -/
def nP (val Pi : Nat → Int) (D : Int) (v : Nat) : Int := if val v = UU then Pi v - D else if Pi v - D ≤ val v then val v else Pi v - D
theorem nP_ge (val Pi : Nat → Int) (D : Int) (v : Nat) : Pi v - D ≤ nP val Pi D v ∧ (¬ val v = UU → val v ≤ nP val Pi D v) := by
  unfold nP
  by_cases c : val v = UU
  · rw [if_pos c]; exact ⟨Int.le_refl _, fun q => absurd c q⟩
  · rw [if_neg c]
    by_cases d : Pi v - D ≤ val v
    · rw [if_pos d]; exact ⟨d, fun _ => Int.le_refl _⟩
    · rw [if_neg d]; exact ⟨Int.le_refl _, fun _ => by omega⟩
theorem nP_le (val Pi : Nat → Int) (D B : Int) (v : Nat) (h1 : Pi v - D ≤ B) (h2 : ¬ val v = UU → val v ≤ B) : nP val Pi D v ≤ B := by
  unfold nP
  by_cases c : val v = UU
  · rw [if_pos c]; exact h1
  · rw [if_neg c]
    by_cases d : Pi v - D ≤ val v
    · rw [if_pos d]; exact h2 c
    · rw [if_neg d]; exact h1
theorem nP_eq (val Pi : Nat → Int) (D : Int) (v : Nat) (h1 : ¬ val v = UU) (h2 : Pi v - val v ≤ D) : nP val Pi D v = val v := by
  unfold nP
  rw [if_neg h1, if_pos (by omega)]
theorem nP_pot {E : Nat → Nat → Nat → Nat → Int → Prop} {P J : Nat} (hE : EdOk E P J) {rt : Nat → Prop} {val : Nat → Int} {pr : Nat → Nat} (hSp : Sp E rt val pr) {Pi : Nat → Int} (hPot : Pot E Pi) (D : Int) : Pot E (nP val Pi D) := by
  obtain ⟨c1, -, c3, c4⟩ := hSp
  intro a b u v g e
  have h0 := hPot a b u v g e
  obtain ⟨z1, z2, u12, v12, uv, g1, g2⟩ := hE.1 a b u v g e
  have hv := nP_ge val Pi D v
  have : nP val Pi D u ≤ nP val Pi D v - g := by
    refine nP_le val Pi D _ u (by omega) ?_
    intro hu
    have h1 := c1 a b u v g e hu
    have hb := c3 u u12 hu
    have h2 := hv.2 (by unfold UU; omega)
    omega
  omega
