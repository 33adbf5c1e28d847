/-! ===== the law's own judgement: the class's world beside the reference's ===== -/
theorem va_D.fst {A : Nat → Prop} {w w' : va_W} (h : va_D A w) (e : w.map Prod.fst = w'.map Prod.fst) : va_D A w' := by
  have key : ∀ (k : Nat) (q : Nat × va_E), w'[k]? = some q → ∃ q0, w[k]? = some q0 ∧ q0.1 = q.1 := by
    intro k q hq
    have h1 : (w'.map Prod.fst)[k]? = some q.1 := by rw [List.getElem?_map, hq]; rfl
    rw [← e, List.getElem?_map] at h1
    cases hw : w[k]? with
    | none => rw [hw] at h1; cases h1
    | some q0 => rw [hw] at h1; exact ⟨q0, rfl, Option.some.inj h1⟩
  refine ⟨fun i j p q hp hq hpq => ?_, fun k q hq => ?_⟩
  · obtain ⟨p0, a1, a2⟩ := key i p hp
    obtain ⟨q0, b1, b2⟩ := key j q hq
    exact h.1 i j p0 q0 a1 b1 (by rw [a2, b2]; exact hpq)
  · obtain ⟨q0, b1, b2⟩ := key k q hq
    rw [← b2]
    exact h.2 k q0 b1
def adrs (w : va_W) : Nat → Prop := fun q => ∃ (k : Nat) (e : va_E), w[k]? = some (q, e)
theorem adrs_fst {w w' : va_W} (e : w.map Prod.fst = w'.map Prod.fst) {q : Nat} (h : adrs w q) : adrs w' q := by
  obtain ⟨k, x, hk⟩ := h
  have h1 : (w.map Prod.fst)[k]? = some q := by rw [List.getElem?_map, hk]; rfl
  rw [e, List.getElem?_map] at h1
  cases hw : w'[k]? with
  | none => rw [hw] at h1; cases h1
  | some q0 => rw [hw] at h1; exact ⟨k, q0.2, by rw [hw, ← Option.some.inj h1]⟩
def Ac (V : gV) : Nat → Prop := adrs (cw V sm0)
def Am (V : gV) : Nat → Prop := adrs (mw V sm0)
theorem va_D.self' {A : Nat → Prop} {w : va_W} (h : va_D A w) : va_D (adrs w) w := ⟨h.1, fun k q hk => ⟨k, q.2, hk⟩⟩
theorem va_D.left {A : Nat → Prop} {w1 w2 : va_W} (h : va_D A (w1 ++ w2)) : va_D A w1 := by
  have g : ∀ (k : Nat) (q : Nat × va_E), w1[k]? = some q → (w1 ++ w2)[k]? = some q := fun k q hk => by
    rw [List.getElem?_append_left ((List.getElem?_eq_some_iff.mp hk).1)]; exact hk
  exact ⟨fun i j p q hp hq => h.1 i j p q (g i p hp) (g j q hq), fun k q hk => h.2 k q (g k q hk)⟩
theorem va_D.right {A : Nat → Prop} {w1 w2 : va_W} (h : va_D A (w1 ++ w2)) : va_D A w2 := by
  have g : ∀ (k : Nat) (q : Nat × va_E), w2[k]? = some q → (w1 ++ w2)[w1.length + k]? = some q := fun k q hk => by
    rw [List.getElem?_append_right (by omega), Nat.add_sub_cancel_left]; exact hk
  exact ⟨fun i j p q hp hq e => Nat.add_left_cancel (h.1 _ _ p q (g i p hp) (g j q hq) e), fun k q hk => h.2 _ q (g k q hk)⟩
theorem va_D.apart {A : Nat → Prop} {w1 w2 : va_W} (h : va_D A (w1 ++ w2)) {q : Nat} (h1 : adrs w1 q) (h2 : adrs w2 q) : False := by
  obtain ⟨i, x, hi⟩ := h1
  obtain ⟨j, y, hj⟩ := h2
  have hl := (List.getElem?_eq_some_iff.mp hi).1
  have := h.1 i (w1.length + j) (q, x) (q, y) (by rw [List.getElem?_append_left hl]; exact hi) (by rw [List.getElem?_append_right (by omega), Nat.add_sub_cancel_left]; exact hj) rfl
  omega
abbrev gY : Type := Launch × Program × Env × State × MethodId × List Frame × Method × Code × Nat × Nat × (Nat → Int32) × va_G × gV × gV
def lE (Y : gY) : Prop := match Y with
  | (_, p, _, s, m, _, meth, c, b, L, xs, D, V1, V2) => lw_At p s m meth c b L xs ∧ L ≤ 3072 ∧ va_K D vwCl (gT V1) s ∧ va_K D vwCl (gT V2) s ∧ gN s ∧ ∀ σ μ : St, va_D (fun q : Nat => s.heap.size ≤ q) (cw V1 σ ++ mw V2 μ)
def GL (Y : gY) (σ μ : St) (lv : List (Nat × Value)) (st : List Value) (pc : Nat) : Prop := match Y with
  | (l, p, e, s, m, below, meth, c, b, _, _, D, V1, V2) => ∀ (H : Heap) (locs : List Loc) (ls : Array Slot), va_P D vwCl (cw V1 σ) H → va_P D vwCl (mw V2 μ) H → va_S (fun q : Nat => s.heap.size ≤ q) s.heap H locs → lv_has ls 4 lv → W p l e room_1 s m #[Value.ref b] below meth c H locs 51 109983 (lw_Z below #[Value.ref b] s) (F0 m pc ls st)
section GLR
variable {Y : gY} {σ μ : St} {lv : List (Nat × Value)} {st : List Value} {pc : Nat}

theorem y_iconst (E : lE Y) {i : Int} {v : Int32} (hd : decode code pc = .ok (.iconst i, 1)) (hv : Int32.ofInt i = v) (nx : GL Y σ μ lv (.int v :: st) (pc + 1)) : GL Y σ μ lv st pc := by
  obtain ⟨l, p, e, s, m, below, meth, c, b, L, xs, D, V1, V2⟩ := Y
  obtain ⟨⟨hx, hb, hr, hml, hown, hts0, hX, hbl, hlk, hgv⟩, hL, hK1, hK2, hN, hDD⟩ := E
  have hts : ∀ w ∈ wsL_law, w.before #[Value.ref b] s = true := fun w h => hts0 w (wsL_law_in w h)
  have hbA : ¬ (fun q : Nat => s.heap.size ≤ q) b := Nat.not_le.mpr hbl
  intro H locs ls hP hM hS hl
  exact lv_iconst hx hb hd hv (nx H locs ls hP hM hS hl)

theorem y_bipush (E : lE Y) {i : Int} {v : Int32} (hd : decode code pc = .ok (.bipush i, 2)) (hv : (Int8.ofInt i).toInt32 = v) (nx : GL Y σ μ lv (.int v :: st) (pc + 2)) : GL Y σ μ lv st pc := by
  obtain ⟨l, p, e, s, m, below, meth, c, b, L, xs, D, V1, V2⟩ := Y
  obtain ⟨⟨hx, hb, hr, hml, hown, hts0, hX, hbl, hlk, hgv⟩, hL, hK1, hK2, hN, hDD⟩ := E
  have hts : ∀ w ∈ wsL_law, w.before #[Value.ref b] s = true := fun w h => hts0 w (wsL_law_in w h)
  have hbA : ¬ (fun q : Nat => s.heap.size ≤ q) b := Nat.not_le.mpr hbl
  intro H locs ls hP hM hS hl
  exact lv_bipush hx hb hd hv (nx H locs ls hP hM hS hl)

theorem y_iload_n (E : lE Y) {f : Fin 4} {i : Nat} {x : Int32} (j : Nat) (hd : decode code pc = .ok (.iload_n f, 1)) (hi : (f : Nat) = i) (hj : lv[j]? = some (i, .int x)) (nx : GL Y σ μ lv (.int x :: st) (pc + 1)) : GL Y σ μ lv st pc := by
  obtain ⟨l, p, e, s, m, below, meth, c, b, L, xs, D, V1, V2⟩ := Y
  obtain ⟨⟨hx, hb, hr, hml, hown, hts0, hX, hbl, hlk, hgv⟩, hL, hK1, hK2, hN, hDD⟩ := E
  have hts : ∀ w ∈ wsL_law, w.before #[Value.ref b] s = true := fun w h => hts0 w (wsL_law_in w h)
  have hbA : ¬ (fun q : Nat => s.heap.size ≤ q) b := Nat.not_le.mpr hbl
  intro H locs ls hP hM hS hl
  exact lv_iload_n hx hb hd hi (lv_at hl j hj) (nx H locs ls hP hM hS hl)

theorem y_aload_n (E : lE Y) {f : Fin 4} {i : Nat} {x : Nat} (j : Nat) (hd : decode code pc = .ok (.aload_n f, 1)) (hi : (f : Nat) = i) (hj : lv[j]? = some (i, .ref x)) (nx : GL Y σ μ lv (.ref x :: st) (pc + 1)) : GL Y σ μ lv st pc := by
  obtain ⟨l, p, e, s, m, below, meth, c, b, L, xs, D, V1, V2⟩ := Y
  obtain ⟨⟨hx, hb, hr, hml, hown, hts0, hX, hbl, hlk, hgv⟩, hL, hK1, hK2, hN, hDD⟩ := E
  have hts : ∀ w ∈ wsL_law, w.before #[Value.ref b] s = true := fun w h => hts0 w (wsL_law_in w h)
  have hbA : ¬ (fun q : Nat => s.heap.size ≤ q) b := Nat.not_le.mpr hbl
  intro H locs ls hP hM hS hl
  exact lv_aload_n hx hb hd hi (lv_at hl j hj) (nx H locs ls hP hM hS hl)

theorem y_iadd (E : lE Y) {x y : Int32} (hd : decode code pc = .ok (.iadd, 1)) (nx : GL Y σ μ lv (.int (x + y) :: st) (pc + 1)) : GL Y σ μ lv (.int y :: .int x :: st) pc := by
  obtain ⟨l, p, e, s, m, below, meth, c, b, L, xs, D, V1, V2⟩ := Y
  obtain ⟨⟨hx, hb, hr, hml, hown, hts0, hX, hbl, hlk, hgv⟩, hL, hK1, hK2, hN, hDD⟩ := E
  have hts : ∀ w ∈ wsL_law, w.before #[Value.ref b] s = true := fun w h => hts0 w (wsL_law_in w h)
  have hbA : ¬ (fun q : Nat => s.heap.size ≤ q) b := Nat.not_le.mpr hbl
  intro H locs ls hP hM hS hl
  exact lv_iadd hx hb hd (nx H locs ls hP hM hS hl)

theorem y_isub (E : lE Y) {x y : Int32} (hd : decode code pc = .ok (.isub, 1)) (nx : GL Y σ μ lv (.int (x - y) :: st) (pc + 1)) : GL Y σ μ lv (.int y :: .int x :: st) pc := by
  obtain ⟨l, p, e, s, m, below, meth, c, b, L, xs, D, V1, V2⟩ := Y
  obtain ⟨⟨hx, hb, hr, hml, hown, hts0, hX, hbl, hlk, hgv⟩, hL, hK1, hK2, hN, hDD⟩ := E
  have hts : ∀ w ∈ wsL_law, w.before #[Value.ref b] s = true := fun w h => hts0 w (wsL_law_in w h)
  have hbA : ¬ (fun q : Nat => s.heap.size ≤ q) b := Nat.not_le.mpr hbl
  intro H locs ls hP hM hS hl
  exact lv_isub hx hb hd (nx H locs ls hP hM hS hl)

theorem y_iand (E : lE Y) {x y : Int32} (hd : decode code pc = .ok (.iand, 1)) (nx : GL Y σ μ lv (.int (x &&& y) :: st) (pc + 1)) : GL Y σ μ lv (.int y :: .int x :: st) pc := by
  obtain ⟨l, p, e, s, m, below, meth, c, b, L, xs, D, V1, V2⟩ := Y
  obtain ⟨⟨hx, hb, hr, hml, hown, hts0, hX, hbl, hlk, hgv⟩, hL, hK1, hK2, hN, hDD⟩ := E
  have hts : ∀ w ∈ wsL_law, w.before #[Value.ref b] s = true := fun w h => hts0 w (wsL_law_in w h)
  have hbA : ¬ (fun q : Nat => s.heap.size ≤ q) b := Nat.not_le.mpr hbl
  intro H locs ls hP hM hS hl
  exact lv_iand hx hb hd (nx H locs ls hP hM hS hl)

theorem y_lcmp (E : lE Y) {x y : Int64} (hd : decode code pc = .ok (.lcmp, 1)) (nx : GL Y σ μ lv (.int (lg_cmp x y) :: st) (pc + 1)) : GL Y σ μ lv (.long y :: .long x :: st) pc := by
  obtain ⟨l, p, e, s, m, below, meth, c, b, L, xs, D, V1, V2⟩ := Y
  obtain ⟨⟨hx, hb, hr, hml, hown, hts0, hX, hbl, hlk, hgv⟩, hL, hK1, hK2, hN, hDD⟩ := E
  have hts : ∀ w ∈ wsL_law, w.before #[Value.ref b] s = true := fun w h => hts0 w (wsL_law_in w h)
  have hbA : ¬ (fun q : Nat => s.heap.size ≤ q) b := Nat.not_le.mpr hbl
  intro H locs ls hP hM hS hl
  exact W.lcmp hx hb hd (nx H locs ls hP hM hS hl)

theorem y_sld (E : lE Y) {i : Int32} (hin : vp_in i Y.2.2.2.2.2.2.2.2.2.1) (hd : decode code pc = .ok (.iaload, 1)) (nx : GL Y σ μ lv (.int (Y.2.2.2.2.2.2.2.2.2.2.1 i.toNatClampNeg) :: st) (pc + 1)) : GL Y σ μ lv (.int i :: .ref Y.2.2.2.2.2.2.2.2.1 :: st) pc := by
  obtain ⟨l, p, e, s, m, below, meth, c, b, L, xs, D, V1, V2⟩ := Y
  obtain ⟨⟨hx, hb, hr, hml, hown, hts0, hX, hbl, hlk, hgv⟩, hL, hK1, hK2, hN, hDD⟩ := E
  have hts : ∀ w ∈ wsL_law, w.before #[Value.ref b] s = true := fun w h => hts0 w (wsL_law_in w h)
  have hbA : ¬ (fun q : Nat => s.heap.size ≤ q) b := Nat.not_le.mpr hbl
  intro H locs ls hP hM hS hl
  exact va_sld hx hb hX hbl hbA hS hin hd (nx H locs ls hP hM hS hl)

theorem y_slen (E : lE Y)  (hd : decode code pc = .ok (.arraylength, 1)) (nx : GL Y σ μ lv (.int (Int32.ofNat Y.2.2.2.2.2.2.2.2.2.1) :: st) (pc + 1)) : GL Y σ μ lv (.ref Y.2.2.2.2.2.2.2.2.1 :: st) pc := by
  obtain ⟨l, p, e, s, m, below, meth, c, b, L, xs, D, V1, V2⟩ := Y
  obtain ⟨⟨hx, hb, hr, hml, hown, hts0, hX, hbl, hlk, hgv⟩, hL, hK1, hK2, hN, hDD⟩ := E
  have hts : ∀ w ∈ wsL_law, w.before #[Value.ref b] s = true := fun w h => hts0 w (wsL_law_in w h)
  have hbA : ¬ (fun q : Nat => s.heap.size ≤ q) b := Nat.not_le.mpr hbl
  intro H locs ls hP hM hS hl
  exact va_slen hx hb hX hbl hbA hS hd (nx H locs ls hP hM hS hl)

theorem y_icmp_eqT (E : lE Y) {x y : Int32} {off : Int} {tgt : Nat} (h : x = y) (hd : decode code pc = .ok (.if_icmp .eq off, 3)) (ht : (pc : Int) + off = (tgt : Int)) (nx : GL Y σ μ lv st tgt) : GL Y σ μ lv (.int y :: .int x :: st) pc := by
  obtain ⟨l, p, e, s, m, below, meth, c, b, L, xs, D, V1, V2⟩ := Y
  obtain ⟨⟨hx, hb, hr, hml, hown, hts0, hX, hbl, hlk, hgv⟩, hL, hK1, hK2, hN, hDD⟩ := E
  have hts : ∀ w ∈ wsL_law, w.before #[Value.ref b] s = true := fun w h => hts0 w (wsL_law_in w h)
  have hbA : ¬ (fun q : Nat => s.heap.size ≤ q) b := Nat.not_le.mpr hbl
  intro H locs ls hP hM hS hl
  exact lv_icmp_eq hx hb hd ht (fun _ => nx H locs ls hP hM hS hl) (fun h9 => absurd h h9)

theorem y_if_eqT (E : lE Y) {x : Int32} {off : Int} {tgt : Nat} (h : x = 0) (hd : decode code pc = .ok (.ifCond .eq off, 3)) (ht : (pc : Int) + off = (tgt : Int)) (nx : GL Y σ μ lv st tgt) : GL Y σ μ lv (.int x :: st) pc := by
  obtain ⟨l, p, e, s, m, below, meth, c, b, L, xs, D, V1, V2⟩ := Y
  obtain ⟨⟨hx, hb, hr, hml, hown, hts0, hX, hbl, hlk, hgv⟩, hL, hK1, hK2, hN, hDD⟩ := E
  have hts : ∀ w ∈ wsL_law, w.before #[Value.ref b] s = true := fun w h => hts0 w (wsL_law_in w h)
  have hbA : ¬ (fun q : Nat => s.heap.size ≤ q) b := Nat.not_le.mpr hbl
  intro H locs ls hP hM hS hl
  exact lv_if_eq hx hb hd ht (fun _ => nx H locs ls hP hM hS hl) (fun h9 => absurd h h9)

theorem y_icmp_gt (E : lE Y) {x y : Int32} {off : Int} {tgt : Nat} (hd : decode code pc = .ok (.if_icmp .gt off, 3)) (ht : (pc : Int) + off = (tgt : Int)) (kt : y < x → GL Y σ μ lv st tgt) (kf : ¬ y < x → GL Y σ μ lv st (pc + 3)) : GL Y σ μ lv (.int y :: .int x :: st) pc := by
  obtain ⟨l, p, e, s, m, below, meth, c, b, L, xs, D, V1, V2⟩ := Y
  obtain ⟨⟨hx, hb, hr, hml, hown, hts0, hX, hbl, hlk, hgv⟩, hL, hK1, hK2, hN, hDD⟩ := E
  have hts : ∀ w ∈ wsL_law, w.before #[Value.ref b] s = true := fun w h => hts0 w (wsL_law_in w h)
  have hbA : ¬ (fun q : Nat => s.heap.size ≤ q) b := Nat.not_le.mpr hbl
  intro H locs ls hP hM hS hl
  exact lv_icmp_gt hx hb hd ht (fun h => kt h H locs ls hP hM hS hl) (fun h => kf h H locs ls hP hM hS hl)

theorem y_goto (E : lE Y) {off : Int} {tgt : Nat} (hd : decode code pc = .ok (.goto off, 3)) (ht : (pc : Int) + off = (tgt : Int)) (nx : GL Y σ μ lv st tgt) : GL Y σ μ lv st pc := by
  obtain ⟨l, p, e, s, m, below, meth, c, b, L, xs, D, V1, V2⟩ := Y
  obtain ⟨⟨hx, hb, hr, hml, hown, hts0, hX, hbl, hlk, hgv⟩, hL, hK1, hK2, hN, hDD⟩ := E
  have hts : ∀ w ∈ wsL_law, w.before #[Value.ref b] s = true := fun w h => hts0 w (wsL_law_in w h)
  have hbA : ¬ (fun q : Nat => s.heap.size ≤ q) b := Nat.not_le.mpr hbl
  intro H locs ls hP hM hS hl
  exact lv_goto hx hb hd ht (nx H locs ls hP hM hS hl)

theorem y_iinc (E : lE Y) {i : Nat} {n : Int} {x : Int32} (j : Nat) (lv' : List (Nat × Value)) (v : Int32) (hd : decode code pc = .ok (.iinc i n, 3)) (hj : lv[j]? = some (i, .int x)) (hv : x + Int32.ofInt n = v) (hn : i < 4) (hl' : (i, Value.int v) :: lv.filter (fun q => !(q.1 == i) && !(q.1 + 1 == i && q.2.category == 2)) = lv') (nx : GL Y σ μ lv' st (pc + 3)) : GL Y σ μ lv st pc := by
  obtain ⟨l, p, e, s, m, below, meth, c, b, L, xs, D, V1, V2⟩ := Y
  obtain ⟨⟨hx, hb, hr, hml, hown, hts0, hX, hbl, hlk, hgv⟩, hL, hK1, hK2, hN, hDD⟩ := E
  have hts : ∀ w ∈ wsL_law, w.before #[Value.ref b] s = true := fun w h => hts0 w (wsL_law_in w h)
  have hbA : ¬ (fun q : Nat => s.heap.size ≤ q) b := Nat.not_le.mpr hbl
  intro H locs ls hP hM hS hl
  exact lv_iinc hx hb hd hl hj hv hn hl' (fun ls hl => nx H locs ls hP hM hS hl)

theorem y_tabIn (E : lE Y) {dflt lo hi : Int} {offs : Array Int} {len : Nat} {x : Int32} {off : Int} {tgt : Nat} (kx : Int32) (hc : x = kx) (hd : decode code pc = .ok (.tableswitch dflt lo hi offs, len)) (h1 : ¬ kx.toInt < lo) (h2 : ¬ hi < kx.toInt) (ho : offs[(kx.toInt - lo).toNat]? = some off) (ht : (pc : Int) + off = (tgt : Int)) (nx : GL Y σ μ lv st tgt) : GL Y σ μ lv (.int x :: st) pc := by
  obtain ⟨l, p, e, s, m, below, meth, c, b, L, xs, D, V1, V2⟩ := Y
  obtain ⟨⟨hx, hb, hr, hml, hown, hts0, hX, hbl, hlk, hgv⟩, hL, hK1, hK2, hN, hDD⟩ := E
  have hts : ∀ w ∈ wsL_law, w.before #[Value.ref b] s = true := fun w h => hts0 w (wsL_law_in w h)
  have hbA : ¬ (fun q : Nat => s.heap.size ≤ q) b := Nat.not_le.mpr hbl
  intro H locs ls hP hM hS hl
  subst hc
  exact lv_tableIn hx hb hd h1 h2 ho ht (nx H locs ls hP hM hS hl)

theorem y_tabOut (E : lE Y) {dflt lo hi : Int} {offs : Array Int} {len : Nat} {x : Int32} {tgt : Nat} (hd : decode code pc = .ok (.tableswitch dflt lo hi offs, len)) (h : x.toInt < lo ∨ hi < x.toInt) (ht : (pc : Int) + dflt = (tgt : Int)) (nx : GL Y σ μ lv st tgt) : GL Y σ μ lv (.int x :: st) pc := by
  obtain ⟨l, p, e, s, m, below, meth, c, b, L, xs, D, V1, V2⟩ := Y
  obtain ⟨⟨hx, hb, hr, hml, hown, hts0, hX, hbl, hlk, hgv⟩, hL, hK1, hK2, hN, hDD⟩ := E
  have hts : ∀ w ∈ wsL_law, w.before #[Value.ref b] s = true := fun w h => hts0 w (wsL_law_in w h)
  have hbA : ¬ (fun q : Nat => s.heap.size ≤ q) b := Nat.not_le.mpr hbl
  intro H locs ls hP hM hS hl
  exact lv_tableOut hx hb hd h ht (nx H locs ls hP hM hS hl)

theorem y_sub (ks : List Nat) {lv' : List (Nat × Value)} (h : lv_pick lv ks = lv') (nx : GL Y σ μ lv' st pc) : GL Y σ μ lv st pc := by
  obtain ⟨l, p, e, s, m, below, meth, c, b, L, xs, D, V1, V2⟩ := Y
  intro H locs ls hP hM hS hl
  exact nx H locs ls hP hM hS (lv_sub hl ks h)

theorem y_ret (E : lE Y) (hd : decode code pc = .ok (.ireturn, 1)) : GL Y σ μ lv [.int 1] pc := by
  obtain ⟨l, p, e, s, m, below, meth, c, b, L, xs, D, V1, V2⟩ := Y
  obtain ⟨⟨hx, hb, hr, hml, hown, hts0, hX, hbl, hlk, hgv⟩, hL, hK1, hK2, hN, hDD⟩ := E
  have hts : ∀ w ∈ wsL_law, w.before #[Value.ref b] s = true := fun w h => hts0 w (wsL_law_in w h)
  have hbA : ¬ (fun q : Nat => s.heap.size ≤ q) b := Nat.not_le.mpr hbl
  intro H locs ls hP hM hS hl
  refine va_forget (fun q hq => hS.2.2 q hq) ?_
  refine W.widen (k := 600000) (n := 7302250) (by omega) (by omega) ?_
  exact lw_ret hx hb hr hlk hd

theorem y_callC (E : lE Y) {y : MethodName} {ws ws' : List Cond} {rm : Room} {maxL ix n : Nat} {bytes : ByteArray} {rt : Option FieldType} {v : Value} {σ' : St} {As rest : List Value} (hMC : MC (Y.1, Y.2.2.2.2.2.2.2.2.2.2.2.1, Ac Y.2.2.2.2.2.2.2.2.2.2.2.2.1, Y.2.2.2.2.2.2.2.2.2.2.2.2.1) y ws rm (.ref (Y.2.2.2.2.2.2.2.2.2.2.2.2.1.1 0) :: As) (cw Y.2.2.2.2.2.2.2.2.2.2.2.2.1 σ) (some v) (cw Y.2.2.2.2.2.2.2.2.2.2.2.2.1 σ')) (hG : GoodIn wsL_law (wsV RL ix RX8 y ws)) (hw : ws = Cond.code y bytes maxL rt :: ws') (hrc : rm.cells = 0) (hrs : rm.slots = 0) (hd0 : y.cls = RX8 ∧ y.cls ≠ "java/lang/invoke/MethodHandle" ∧ y.cls ≠ "java/lang/invoke/VarHandle" ∧ (parseMethodDescriptor y.desc).map (fun d => d.parameters.length) = some n) (hRR : rm.frames + 1 ≤ room_1.frames ∧ 8 + (maxL + 11) + rm.locals ≤ room_1.locals) (hn : As.length = n) (hst : st = As.reverse ++ .ref (Y.2.2.2.2.2.2.2.2.2.2.2.2.1.1 0) :: rest) (hW : (rest.map fun v => v.category).sum ≤ 8) (hd : decode code pc = .ok (.invokevirtual ix, 3)) (nx : GL Y σ' μ lv (v :: rest) (pc + 3)) : GL Y σ μ lv st pc := by
  obtain ⟨l, p, e, s, m, below, meth, c, b, L, xs, D, V1, V2⟩ := Y
  obtain ⟨⟨hx, hb, hr, hml, hown, hts0, hX, hbl, hlk, hgv⟩, hL, hK1, hK2, hN, hDD⟩ := E
  have hts : ∀ w ∈ wsL_law, w.before #[Value.ref b] s = true := fun w h => hts0 w (wsL_law_in w h)
  have hbA : ¬ (fun q : Nat => s.heap.size ≤ q) b := Nat.not_le.mpr hbl
  intro H locs ls hP hM hS hl
  subst hst
  have hDc : va_D (Ac V1) (cw V1 σ) := by
    have h1 : va_D (fun q : Nat => s.heap.size ≤ q) (cw V1 σ) := va_D.left (hDD σ μ)
    exact va_D.fst (va_D.self' (va_D.fst h1 (w' := cw V1 sm0) rfl)) rfl
  have hAA : ∀ q, Ac V1 q → s.heap.size ≤ q := fun q h => by
    obtain ⟨k, x, hk⟩ := h
    exact (va_D.left (hDD sm0 sm0)).2 k (q, x) hk
  have hr := va_runV (l := l) (As := As) (rest := rest) (g := F0 m pc ls (As.reverse ++ .ref (V1.1 0) :: rest)) (H := H) (locs := locs) (cells := 51) (slots := 109983) (e := e) (below := below) (meth := meth) ⟨hx, hb, hml, hown, hts⟩ hMC (cwV n hts hG hw hrc hrs hd0 hRR) ⟨gBlind _ _ _, va_recv hK1 hP (ci := 8) (q0 := 0) rfl rfl, fun U hU hW => ⟨rfl, by rw [hU]; exact hP, hDc, va_K.moved hW.alike hK1, hN.warm hW⟩⟩ rfl hn hl.1 rfl (lv_room hW) hd ⟨Nat.le_of_ble_eq_true rfl, Nat.le_of_ble_eq_true rfl⟩
  intro T hT X
  obtain ⟨v', st₀, t, T', L', h0, X', hL', e1, e2, ⟨hv, hP', hD', hz, hk⟩, stp⟩ := hr T hT X
  cases hv
  rw [h0] at hz hk
  have hk' : ∀ q : Nat, q < H.size → ¬ Ac V1 q → T'.heap[q]? = H[q]? := fun q h1 h2 => by rw [e1]; exact hk q h1 h2
  have hO : va_P D vwCl (mw V2 μ) T'.heap := hM.kept (fun k q hq => hk' q.1 ((hM k q hq).lt) (fun h => va_D.apart (hDD sm0 sm0) h (adrs_fst (w := mw V2 μ) (w' := mw V2 sm0) rfl ⟨k, q.2, hq⟩)))
  obtain ⟨t2, a1, b1⟩ := nx T'.heap (locs ++ L') ls (by rw [e1]; exact hP') hO
    ⟨Nat.le_trans hS.1 (by rw [e1]; exact hz), fun q h1 h2 => by rw [hk' q (Nat.lt_of_lt_of_le h1 hS.1) (fun h => h2 (hAA q h))]; exact hS.2.1 q h1 h2, fun q hq => by
      rcases List.mem_append.mp hq with h | h
      · exact hS.2.2 q h
      · exact hAA _ (hL' q h)⟩ hl T' rfl X'
  exact ⟨t2, stp t2 a1, b1⟩

theorem y_callM (E : lE Y) {y : MethodName} {ws ws' : List Cond} {rm : Room} {maxL ix n : Nat} {bytes : ByteArray} {rt : Option FieldType} {v : Value} {μ' : St} {As rest : List Value} (hMC : MC (Y.1, Y.2.2.2.2.2.2.2.2.2.2.2.1, Am Y.2.2.2.2.2.2.2.2.2.2.2.2.2, Y.2.2.2.2.2.2.2.2.2.2.2.2.2) y ws rm (.ref (Y.2.2.2.2.2.2.2.2.2.2.2.2.2.1 0) :: As) (mw Y.2.2.2.2.2.2.2.2.2.2.2.2.2 μ) (some v) (mw Y.2.2.2.2.2.2.2.2.2.2.2.2.2 μ')) (hG : GoodIn wsL_law (wsV RL ix RX9 y ws)) (hw : ws = Cond.code y bytes maxL rt :: ws') (hrc : rm.cells = 0) (hrs : rm.slots = 0) (hd0 : y.cls = RX9 ∧ y.cls ≠ "java/lang/invoke/MethodHandle" ∧ y.cls ≠ "java/lang/invoke/VarHandle" ∧ (parseMethodDescriptor y.desc).map (fun d => d.parameters.length) = some n) (hRR : rm.frames + 1 ≤ room_1.frames ∧ 8 + (maxL + 11) + rm.locals ≤ room_1.locals) (hn : As.length = n) (hst : st = As.reverse ++ .ref (Y.2.2.2.2.2.2.2.2.2.2.2.2.2.1 0) :: rest) (hW : (rest.map fun v => v.category).sum ≤ 8) (hd : decode code pc = .ok (.invokevirtual ix, 3)) (nx : GL Y σ μ' lv (v :: rest) (pc + 3)) : GL Y σ μ lv st pc := by
  obtain ⟨l, p, e, s, m, below, meth, c, b, L, xs, D, V1, V2⟩ := Y
  obtain ⟨⟨hx, hb, hr, hml, hown, hts0, hX, hbl, hlk, hgv⟩, hL, hK1, hK2, hN, hDD⟩ := E
  have hts : ∀ w ∈ wsL_law, w.before #[Value.ref b] s = true := fun w h => hts0 w (wsL_law_in w h)
  have hbA : ¬ (fun q : Nat => s.heap.size ≤ q) b := Nat.not_le.mpr hbl
  intro H locs ls hP hM hS hl
  subst hst
  have hDc : va_D (Am V2) (mw V2 μ) := by
    have h1 : va_D (fun q : Nat => s.heap.size ≤ q) (mw V2 μ) := va_D.right (hDD σ μ)
    exact va_D.fst (va_D.self' (va_D.fst h1 (w' := mw V2 sm0) rfl)) rfl
  have hAA : ∀ q, Am V2 q → s.heap.size ≤ q := fun q h => by
    obtain ⟨k, x, hk⟩ := h
    exact (va_D.right (hDD sm0 sm0)).2 k (q, x) hk
  have hr := va_runV (l := l) (As := As) (rest := rest) (g := F0 m pc ls (As.reverse ++ .ref (V2.1 0) :: rest)) (H := H) (locs := locs) (cells := 51) (slots := 109983) (e := e) (below := below) (meth := meth) ⟨hx, hb, hml, hown, hts⟩ hMC (cwV n hts hG hw hrc hrs hd0 hRR) ⟨gBlind _ _ _, va_recv hK2 hM (ci := 9) (q0 := 0) rfl rfl, fun U hU hW => ⟨rfl, by rw [hU]; exact hM, hDc, va_K.moved hW.alike hK2, hN.warm hW⟩⟩ rfl hn hl.1 rfl (lv_room hW) hd ⟨Nat.le_of_ble_eq_true rfl, Nat.le_of_ble_eq_true rfl⟩
  intro T hT X
  obtain ⟨v', st₀, t, T', L', h0, X', hL', e1, e2, ⟨hv, hP', hD', hz, hk⟩, stp⟩ := hr T hT X
  cases hv
  rw [h0] at hz hk
  have hk' : ∀ q : Nat, q < H.size → ¬ Am V2 q → T'.heap[q]? = H[q]? := fun q h1 h2 => by rw [e1]; exact hk q h1 h2
  have hO : va_P D vwCl (cw V1 σ) T'.heap := hP.kept (fun k q hq => hk' q.1 ((hP k q hq).lt) (fun h => va_D.apart (hDD sm0 sm0) (adrs_fst (w := cw V1 σ) (w' := cw V1 sm0) rfl ⟨k, q.2, hq⟩) h))
  obtain ⟨t2, a1, b1⟩ := nx T'.heap (locs ++ L') ls hO (by rw [e1]; exact hP')
    ⟨Nat.le_trans hS.1 (by rw [e1]; exact hz), fun q h1 h2 => by rw [hk' q (Nat.lt_of_lt_of_le h1 hS.1) (fun h => h2 (hAA q h))]; exact hS.2.1 q h1 h2, fun q hq => by
      rcases List.mem_append.mp hq with h | h
      · exact hS.2.2 q h
      · exact hAA _ (hL' q h)⟩ hl T' rfl X'
  exact ⟨t2, stp t2 a1, b1⟩

end GLR