/-! ===== match: chains of changes, pure ===== -/
def UU : Int := -1152921504606846976
def up {α : Type} (f : Nat → α) (i : Nat) (v : α) : Nat → α := fun j => if j = i then v else f j
theorem up_s {α : Type} (f : Nat → α) (i : Nat) (v : α) : up f i v i = v := by unfold up; rw [if_pos rfl]
theorem up_n {α : Type} (f : Nat → α) {i j : Nat} (v : α) (h : ¬ j = i) : up f i v j = f j := by unfold up; rw [if_neg h]
def cnt (f : Nat → Bool) (n : Nat) : Nat := sN (fun x => if f x = true then 1 else 0) n
theorem cnt_le (f : Nat → Bool) : ∀ n, cnt f n ≤ n := by
  intro n
  induction n with
  | zero => exact Nat.le_refl 0
  | succ n ih =>
    have e : cnt f (n + 1) = cnt f n + (if f n = true then 1 else 0) := rfl
    rw [e]
    by_cases c : f n = true
    · rw [if_pos c]; omega
    · rw [if_neg c]; omega
theorem cnt_add (f : Nat → Bool) (v : Nat) (hv : f v = false) : ∀ n, cnt (up f v true) n = if v < n then cnt f n + 1 else cnt f n := by
  intro n
  induction n with
  | zero => rw [if_neg (by omega)]; rfl
  | succ n ih =>
    have e1 : cnt (up f v true) (n + 1) = cnt (up f v true) n + (if up f v true n = true then 1 else 0) := rfl
    have e2 : cnt f (n + 1) = cnt f n + (if f n = true then 1 else 0) := rfl
    rw [e1, e2, ih]
    by_cases c : n = v
    · subst c
      rw [up_s, hv, if_neg (show ¬ n < n by omega), if_pos (show n < n + 1 by omega)]
      rfl
    · rw [up_n _ _ c]
      by_cases d : v < n
      · rw [if_pos d, if_pos (show v < n + 1 by omega)]; omega
      · rw [if_neg d, if_neg (show ¬ v < n + 1 by omega)]
def EdOk (E : Nat → Nat → Nat → Nat → Int → Prop) (P J : Nat) : Prop := (∀ a b u v g, E a b u v g → a < P ∧ b < J ∧ u < 12 ∧ v < 12 ∧ ¬ u = v ∧ -274877906944 ≤ g ∧ g ≤ 274877906944) ∧ (∀ a b u v g u' v' g', E a b u v g → E a b u' v' g' → u = u' ∧ v = v' ∧ g = g')
def Pot (E : Nat → Nat → Nat → Nat → Int → Prop) (Pi : Nat → Int) : Prop := ∀ a b u v g, E a b u v g → Pi u + g ≤ Pi v
/-- the state of the spreading within round i, before the pair (p, q); ch: something changed in this round -/
def BI (E : Nat → Nat → Nat → Nat → Int → Prop) (Pi : Nat → Int) (rt : Nat → Prop) (i p q : Nat) (ch : Prop) (n : Nat) (val : Nat → Int) (pr : Nat → Nat) : Prop := ∃ (A : Nat → Nat → Bool) (rd t : Nat → Nat) (T : Nat),
  (∀ v, v < 12 → rd v + 1 ≤ cnt (A v) 12 ∧ rd v ≤ i ∧ t v < T) ∧
  (∀ v x, v < 12 → x < 12 → A v x = true → ¬ val v = UU → ¬ val x = UU ∧ Pi x - val x ≤ Pi v - val v) ∧
  (∀ a b u v g, E a b u v g → ¬ val u = UU → rd u + 2 ≤ i → val u + g ≤ val v) ∧
  (∀ a b u v g, E a b u v g → (a < p ∨ (a = p ∧ b < q)) → ¬ val u = UU → (rd u + 1 ≤ i ∨ ¬ ch) → val u + g ≤ val v) ∧
  (∀ v, v < 12 → ¬ val v = UU → (pr v = 12 ∧ rt v) ∨ (∃ a b g, E a b (pr v) v g ∧ ¬ val (pr v) = UU ∧ (val v < val (pr v) + g ∨ (val v = val (pr v) + g ∧ t (pr v) < t v)))) ∧
  (∀ v, v < 12 → ¬ val v = UU → -(n * 274877906944 : Int) ≤ val v ∧ val v ≤ (n * 274877906944 : Int)) ∧
  (∀ v, v < 12 → rt v → 0 ≤ val v)
theorem BI_skip {E : Nat → Nat → Nat → Nat → Int → Prop} {Pi : Nat → Int} {rt : Nat → Prop} {i p q : Nat} {ch : Prop} {n : Nat} {val : Nat → Int} {pr : Nat → Nat} (h : BI E Pi rt i p q ch n val pr) (hs : ∀ u v g, E p q u v g → ¬ val u = UU → val u + g ≤ val v) : BI E Pi rt i p (q + 1) ch n val pr := by
  obtain ⟨A, rd, t, T, h1, h2, h3, h4, h5, h6, h7⟩ := h
  refine ⟨A, rd, t, T, h1, h2, h3, ?_, h5, h6, h7⟩
  intro a b u v g e hq hu hr
  by_cases c : a < p ∨ (a = p ∧ b < q)
  · exact h4 a b u v g e c hu hr
  · have ea : a = p := by omega
    have eb : b = q := by omega
    subst ea
    subst eb
    exact hs u v g e hu
theorem BI_row {E : Nat → Nat → Nat → Nat → Int → Prop} {Pi : Nat → Int} {rt : Nat → Prop} {P J : Nat} (hE : EdOk E P J) {i p : Nat} {ch : Prop} {n : Nat} {val : Nat → Int} {pr : Nat → Nat} (h : BI E Pi rt i p J ch n val pr) : BI E Pi rt i (p + 1) 0 ch n val pr := by
  obtain ⟨A, rd, t, T, h1, h2, h3, h4, h5, h6, h7⟩ := h
  refine ⟨A, rd, t, T, h1, h2, h3, ?_, h5, h6, h7⟩
  intro a b u v g e hq hu hr
  have hb := (hE.1 a b u v g e).2.1
  exact h4 a b u v g e (by omega) hu hr
theorem BI_next {E : Nat → Nat → Nat → Nat → Int → Prop} {Pi : Nat → Int} {rt : Nat → Prop} {P J : Nat} (hE : EdOk E P J) {i : Nat} {ch : Prop} {n : Nat} {val : Nat → Int} {pr : Nat → Nat} (h : BI E Pi rt i P 0 ch n val pr) : BI E Pi rt (i + 1) 0 0 False n val pr := by
  obtain ⟨A, rd, t, T, h1, h2, h3, h4, h5, h6, h7⟩ := h
  refine ⟨A, rd, t, T, fun v hv => ?_, h2, ?_, ?_, h5, h6, h7⟩
  · obtain ⟨x1, x2, x3⟩ := h1 v hv
    exact ⟨x1, by omega, x3⟩
  · intro a b u v g e hu hr
    exact h4 a b u v g e (Or.inl (hE.1 a b u v g e).1) hu (Or.inl (by omega))
  · intro a b u v g e hq
    omega
theorem BI_cv {E : Nat → Nat → Nat → Nat → Int → Prop} {Pi : Nat → Int} {rt : Nat → Prop} {P J : Nat} (hE : EdOk E P J) {i : Nat} {n : Nat} {ch : Prop} (hch : ¬ ch) {val : Nat → Int} {pr : Nat → Nat} (h : BI E Pi rt i P 0 ch n val pr) : ∀ a b u v g, E a b u v g → ¬ val u = UU → val u + g ≤ val v := by
  obtain ⟨A, rd, t, T, h1, h2, h3, h4, h5, h6, h7⟩ := h
  intro a b u v g e hu
  exact h4 a b u v g e (Or.inl (hE.1 a b u v g e).1) hu (Or.inr hch)
theorem BI_imp {E : Nat → Nat → Nat → Nat → Int → Prop} {Pi : Nat → Int} {rt : Nat → Prop} {P J : Nat} (hE : EdOk E P J) (hP : Pot E Pi) {i p q : Nat} {ch : Prop} {n : Nat} (hn : n < 1000) {val : Nat → Int} {pr : Nat → Nat} (h : BI E Pi rt i p q ch n val pr) {u v : Nat} {g : Int} (e0 : E p q u v g) (hu : ¬ val u = UU) (hlt : val v < val u + g) : BI E Pi rt i p (q + 1) True (n + 1) (up val v (val u + g)) (up pr v u) ∧ i < 12 := by
  obtain ⟨A, rd, t, T, h1, h2, h3, h4, h5, h6, h7⟩ := h
  obtain ⟨z1, z2, u12, v12, uv, g1, g2⟩ := hE.1 p q u v g e0
  have hpot := hP p q u v g e0
  have hbu := h6 u u12 hu
  have hnew : ¬ val u + g = UU := by unfold UU; omega
  have hAu : A u v = false := by
    cases hc : A u v with
    | false => rfl
    | true =>
      have := (h2 u v u12 v12 hc hu).2
      omega
  have hrd : i < rd u + 2 := by
    by_cases c : rd u + 2 ≤ i
    · have := h3 p q u v g e0 hu c
      omega
    · omega
  have hcnt : cnt (up (A u) v true) 12 = cnt (A u) 12 + 1 := by rw [cnt_add _ _ hAu, if_pos v12]
  have hle := cnt_le (up (A u) v true) 12
  have hu1 := (h1 u u12).1
  refine ⟨⟨up A v (up (A u) v true), up rd v i, up t v T, T + 1, ?_, ?_, ?_, ?_, ?_, ?_, ?_⟩, by omega⟩
  · intro x hx
    by_cases c : x = v
    · subst c
      rw [up_s, up_s, up_s]
      exact ⟨by omega, Nat.le_refl i, by omega⟩
    · rw [up_n _ _ c, up_n _ _ c, up_n _ _ c]
      obtain ⟨y1, y2, y3⟩ := h1 x hx
      exact ⟨y1, y2, by omega⟩
  · intro y x hy hx hA hv
    by_cases c : y = v
    · subst c
      rw [up_s] at hA hv ⊢
      by_cases d : x = y
      · subst d
        rw [up_s]
        exact ⟨hnew, Int.le_refl _⟩
      · rw [up_n _ _ d] at hA
        obtain ⟨k1, k2⟩ := h2 u x u12 hx hA hu
        rw [up_n _ _ d]
        exact ⟨k1, by omega⟩
    · rw [up_n _ _ c] at hA hv ⊢
      obtain ⟨k1, k2⟩ := h2 y x hy hx hA hv
      by_cases d : x = v
      · subst d
        rw [up_s]
        exact ⟨hnew, by omega⟩
      · rw [up_n _ _ d]
        exact ⟨k1, k2⟩
  · intro a b x y g' e hx hr
    have hne := (hE.1 a b x y g' e).2.2.2.2.1
    by_cases c : x = v
    · subst c
      rw [up_s] at hr
      omega
    · rw [up_n _ _ c] at hx hr ⊢
      have := h3 a b x y g' e hx hr
      by_cases d : y = v
      · subst d
        rw [up_s]
        omega
      · rw [up_n _ _ d]
        exact this
  · intro a b x y g' e hq hx hr
    have hne := (hE.1 a b x y g' e).2.2.2.2.1
    by_cases c0 : a = p ∧ b = q
    · obtain ⟨rfl, rfl⟩ := c0
      obtain ⟨r1, r2, r3⟩ := hE.2 a b x y g' u v g e e0
      subst r1
      subst r2
      subst r3
      rw [up_s, up_n _ _ uv]
      exact Int.le_refl _
    · by_cases c : x = v
      · subst c
        rw [up_s] at hr
        rcases hr with hr | hr
        · omega
        · exact absurd trivial hr
      · rw [up_n _ _ c] at hx hr ⊢
        have hr' : rd x + 1 ≤ i ∨ ¬ ch := by
          rcases hr with hr | hr
          · exact Or.inl hr
          · exact absurd trivial hr
        have := h4 a b x y g' e (by omega) hx hr'
        by_cases d : y = v
        · subst d
          rw [up_s]
          omega
        · rw [up_n _ _ d]
          exact this
  · intro x hx hv
    by_cases c : x = v
    · subst c
      right
      refine ⟨p, q, g, ?_⟩
      rw [up_s, up_s, up_n _ _ uv, up_s, up_n _ _ uv]
      exact ⟨e0, hu, Or.inr ⟨rfl, (h1 u u12).2.2⟩⟩
    · rw [up_n _ _ c] at hv ⊢
      rcases h5 x hx hv with ⟨k1, k2⟩ | ⟨a, b, g', e, k2, k3⟩
      · left
        exact ⟨k1, k2⟩
      · right
        refine ⟨a, b, g', ?_⟩
        rw [up_n _ _ c]
        refine ⟨e, ?_, ?_⟩
        · by_cases d : pr x = v
          · rw [d, up_s]; exact hnew
          · rw [up_n _ _ d]; exact k2
        · by_cases d : pr x = v
          · rw [d, up_s]
            rw [d] at k3
            left
            rcases k3 with k3 | k3 <;> omega
          · rw [up_n _ _ d, up_n _ _ c, up_n _ _ d]
            exact k3
  · intro x hx hv
    by_cases c : x = v
    · subst c
      rw [up_s]
      omega
    · rw [up_n _ _ c] at hv ⊢
      have := h6 x hx hv
      omega
  · intro x hx hr
    have := h7 x hx hr
    by_cases c : x = v
    · subst c
      rw [up_s]
      omega
    · rw [up_n _ _ c]
      exact this
theorem BI_more {E : Nat → Nat → Nat → Nat → Int → Prop} {Pi : Nat → Int} {rt : Nat → Prop} {i p q : Nat} {ch ch' : Prop} (hc : ch' ↔ ch) {n n' : Nat} (hn : n ≤ n') {val : Nat → Int} {pr : Nat → Nat} (h : BI E Pi rt i p q ch n val pr) : BI E Pi rt i p q ch' n' val pr := by
  obtain ⟨A, rd, t, T, h1, h2, h3, h4, h5, h6, h7⟩ := h
  refine ⟨A, rd, t, T, h1, h2, h3, ?_, h5, ?_, h7⟩
  · intro a b u v g e hq hu hr
    exact h4 a b u v g e hq hu (by rw [hc] at hr; exact hr)
  · intro v hv hx
    have := h6 v hv hx
    omega
theorem BI_0 {E : Nat → Nat → Nat → Nat → Int → Prop} {Pi : Nat → Int} {rt : Nat → Prop} {P J : Nat} (hE : EdOk E P J) {val : Nat → Int} {pr : Nat → Nat} (hv : ∀ v, v < 12 → (rt v ∧ val v = 0) ∨ (¬ rt v ∧ val v = UU)) (hp : ∀ v, v < 12 → pr v = 12) : BI E Pi rt 0 P 0 True 0 val pr := by
  refine ⟨fun v => up (fun _ => false) v true, fun _ => 0, fun _ => 0, 1, ?_, ?_, ?_, ?_, ?_, ?_, ?_⟩
  · intro v h
    have : cnt (up (fun _ => false) v true) 12 = 1 := by
      rw [cnt_add _ _ rfl, if_pos h]
      rfl
    show 0 + 1 ≤ cnt (up (fun _ => false) v true) 12 ∧ _
    rw [this]
    exact ⟨Nat.le_refl 1, Nat.le_refl 0, Nat.lt_succ_self 0⟩
  · intro v x h1 h2 hA hx
    have : x = v := by
      by_cases c : x = v
      · exact c
      · have e : up (fun _ => false) v true x = false := up_n _ _ c
        have hA' : up (fun _ => false) v true x = true := hA
        rw [e] at hA'
        exact absurd hA' (by decide)
    subst this
    exact ⟨hx, Int.le_refl _⟩
  · intro a b u v g e hu hr
    omega
  · intro a b u v g e hq hu hr
    rcases hr with hr | hr
    · omega
    · exact absurd trivial hr
  · intro v h hx
    left
    rcases hv v h with ⟨k1, k2⟩ | ⟨k1, k2⟩
    · exact ⟨hp v h, k1⟩
    · exact absurd k2 hx
  · intro v h hx
    rcases hv v h with ⟨k1, k2⟩ | ⟨k1, k2⟩
    · rw [k2]; omega
    · exact absurd k2 hx
  · intro v h hr
    rcases hv v h with ⟨k1, k2⟩ | ⟨k1, k2⟩
    · rw [k2]; omega
    · exact absurd hr k1
/-- what is left when the spreading is through -/
def Sp (E : Nat → Nat → Nat → Nat → Int → Prop) (rt : Nat → Prop) (val : Nat → Int) (pr : Nat → Nat) : Prop :=
  (∀ a b u v g, E a b u v g → ¬ val u = UU → val u + g ≤ val v) ∧
  (∃ t : Nat → Nat, ∀ v, v < 12 → ¬ val v = UU → (pr v = 12 ∧ rt v) ∨ (∃ a b g, E a b (pr v) v g ∧ ¬ val (pr v) = UU ∧ val v = val (pr v) + g ∧ t (pr v) < t v)) ∧
  (∀ v, v < 12 → ¬ val v = UU → -274877906944000 ≤ val v ∧ val v ≤ 274877906944000) ∧
  (∀ v, v < 12 → rt v → 0 ≤ val v)
theorem BI_sp {E : Nat → Nat → Nat → Nat → Int → Prop} {Pi : Nat → Int} {rt : Nat → Prop} {P J : Nat} (hE : EdOk E P J) {i : Nat} {n : Nat} (hn : n ≤ 1000) {ch : Prop} (hch : ¬ ch) {val : Nat → Int} {pr : Nat → Nat} (h : BI E Pi rt i P 0 ch n val pr) : Sp E rt val pr := by
  have hc := BI_cv hE hch h
  obtain ⟨A, rd, t, T, h1, h2, h3, h4, h5, h6, h7⟩ := h
  refine ⟨hc, ⟨t, ?_⟩, ?_, h7⟩
  · intro v hv hx
    rcases h5 v hv hx with k | ⟨a, b, g, e, k2, k3⟩
    · exact Or.inl k
    · right
      refine ⟨a, b, g, e, k2, ?_⟩
      have := hc a b (pr v) v g e k2
      rcases k3 with k3 | k3
      · omega
      · exact k3
  · intro v hv hx
    have := h6 v hv hx
    omega
