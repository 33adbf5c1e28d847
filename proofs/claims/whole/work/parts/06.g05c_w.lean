def rm_fJ7_fill_53178_27 : Room := { frames := 0, cells := 0, slots := 0, locals := 0 }
set_option maxHeartbeats 4000000 in
set_option maxRecDepth 100000 in
theorem fJ7_fill_53178_27_w5 {k : gK} {X : gX} (E : gE k X cJ7_fill_53178 RJ7 wsJ7_fill_53178 4 none rm_fJ7_fill_53178_27) (rc5 : St → Int32 → Int32 → Int32 → Option (Unit × St)) (hrc5 : ∀ (σ : St) (x1 : Int32) (x2 : Int32) (x3 : Int32) (r : Unit × St), rc5 σ x1 x2 x3 = some r → G k X 4 (none) (cw k.2.2.2 r.2) (cw k.2.2.2 σ) [(0, .ref (k.2.2.2.1 27)), (1, .int x1), (2, .int x2), (3, .int x3)] [] 5) (σ : St) (x1 : Int32) (x2 : Int32) (x3 : Int32) (r : Unit × St) (hf : fJ7_fill_53178_27_b5 rc5 σ x1 x2 x3 = some r) : G k X 4 (none) (cw k.2.2.2 r.2) (cw k.2.2.2 σ) [(0, .ref (k.2.2.2.1 27)), (1, .int x1), (2, .int x2), (3, .int x3)] [] 5 := by
  unfold fJ7_fill_53178_27_b5 at hf
  refine g_iload_n E 2 dJ7_fill_53178_5 rfl rfl ?_
  refine g_iload_n E 3 dJ7_fill_53178_6 rfl rfl ?_
  refine g_icmp_ge (tgt := 20) E dJ7_fill_53178_7 (by decide) (fun c1 => ?_) (fun c1 => ?_)
  · have hf := gp hf c1
    have hf := Option.some.inj hf
    subst hf
    exact g_vret E dJ7_fill_53178_20
  · have hf := gn hf c1
    refine g_aload_n E 0 dJ7_fill_53178_10 rfl rfl ?_
    refine g_iload_n E 2 dJ7_fill_53178_11 rfl rfl ?_
    refine g_iload_n E 1 dJ7_fill_53178_12 rfl rfl ?_
    obtain ⟨hi2, hf⟩ := gd hf
    refine g_iast E 27 (cw k.2.2.2 (uA σ 27 x2.toNatClampNeg x1)) (σ.1 27) (cwG27 _ _) hi2 (cwA27 _ _ _ _) dJ7_fill_53178_13 ?_
    refine g_iinc E 2 [(2, .int (x2 + (1 : Int32))), (0, .ref (k.2.2.2.1 27)), (1, .int x1), (3, .int x3)] (x2 + (1 : Int32)) dJ7_fill_53178_14 rfl (by rfl) (by decide) rfl ?_
    refine g_goto (tgt := 5) E dJ7_fill_53178_17 (by decide) ?_
    exact g_sub [1, 2, 0, 3] rfl (hrc5 (uA σ 27 x2.toNatClampNeg x1) x1 (x2 + (1 : Int32)) x3 r hf)
theorem fJ7_fill_53178_27_v5 {k : gK} {X : gX} (E : gE k X cJ7_fill_53178 RJ7 wsJ7_fill_53178 4 none rm_fJ7_fill_53178_27) : ∀ (n : Nat) (σ : St) (x1 : Int32) (x2 : Int32) (x3 : Int32) (r : Unit × St), fJ7_fill_53178_27_l5 n σ x1 x2 x3 = some r → G k X 4 (none) (cw k.2.2.2 r.2) (cw k.2.2.2 σ) [(0, .ref (k.2.2.2.1 27)), (1, .int x1), (2, .int x2), (3, .int x3)] [] 5 := by
  intro n
  induction n with
  | zero => intro σ x1 x2 x3 r hf; cases hf
  | succ n ih => intro σ x1 x2 x3 r hf; exact fJ7_fill_53178_27_w5 E (fJ7_fill_53178_27_l5 n) ih σ x1 x2 x3 r hf
set_option maxHeartbeats 4000000 in
set_option maxRecDepth 100000 in
theorem fJ7_fill_53178_27_c (k : gK) (σ : St) (x1 : Int32) (r : Unit × St) (hf : fJ7_fill_53178_27 σ x1 = some r) : MC k yJ7_fill_53178 wsJ7_fill_53178 rm_fJ7_fill_53178_27 [.ref (k.2.2.2.1 27), .int x1] (cw k.2.2.2 σ) (none) (cw k.2.2.2 r.2) := by
  refine MC_of (cc := cJ7_fill_53178) (maxL := 4) (ret := none) (own := RJ7) (lvs := [(0, .ref (k.2.2.2.1 27)), (1, .int x1)]) (by decide) rfl rfl (Nat.le_of_ble_eq_true rfl) rfl (fun X E => ?_)
  unfold fJ7_fill_53178_27 at hf
  refine g_iconst (v := (0 : Int32)) E dJ7_fill_53178_0 (by decide) ?_
  refine g_istore_n E [(2, .int (0 : Int32)), (0, .ref (k.2.2.2.1 27)), (1, .int x1)] dJ7_fill_53178_1 rfl (by decide) rfl ?_
  refine g_aload_n E 1 dJ7_fill_53178_2 rfl rfl ?_
  refine g_alenI (v := (6 : Int32)) E 27 (σ.1 27) (cwG27 _ _) (by decide) dJ7_fill_53178_3 ?_
  refine g_istore_n E [(3, .int (6 : Int32)), (2, .int (0 : Int32)), (0, .ref (k.2.2.2.1 27)), (1, .int x1)] dJ7_fill_53178_4 rfl (by decide) rfl ?_
  exact g_sub [2, 3, 1, 0] rfl (fJ7_fill_53178_27_v5 E gF σ x1 (0 : Int32) (6 : Int32) r hf)
def rm_fJ7_fill_53178_29 : Room := { frames := 0, cells := 0, slots := 0, locals := 0 }
set_option maxHeartbeats 4000000 in
set_option maxRecDepth 100000 in
theorem fJ7_fill_53178_29_w5 {k : gK} {X : gX} (E : gE k X cJ7_fill_53178 RJ7 wsJ7_fill_53178 4 none rm_fJ7_fill_53178_29) (rc5 : St → Int32 → Int32 → Int32 → Option (Unit × St)) (hrc5 : ∀ (σ : St) (x1 : Int32) (x2 : Int32) (x3 : Int32) (r : Unit × St), rc5 σ x1 x2 x3 = some r → G k X 4 (none) (cw k.2.2.2 r.2) (cw k.2.2.2 σ) [(0, .ref (k.2.2.2.1 29)), (1, .int x1), (2, .int x2), (3, .int x3)] [] 5) (σ : St) (x1 : Int32) (x2 : Int32) (x3 : Int32) (r : Unit × St) (hf : fJ7_fill_53178_29_b5 rc5 σ x1 x2 x3 = some r) : G k X 4 (none) (cw k.2.2.2 r.2) (cw k.2.2.2 σ) [(0, .ref (k.2.2.2.1 29)), (1, .int x1), (2, .int x2), (3, .int x3)] [] 5 := by
  unfold fJ7_fill_53178_29_b5 at hf
  refine g_iload_n E 2 dJ7_fill_53178_5 rfl rfl ?_
  refine g_iload_n E 3 dJ7_fill_53178_6 rfl rfl ?_
  refine g_icmp_ge (tgt := 20) E dJ7_fill_53178_7 (by decide) (fun c1 => ?_) (fun c1 => ?_)
  · have hf := gp hf c1
    have hf := Option.some.inj hf
    subst hf
    exact g_vret E dJ7_fill_53178_20
  · have hf := gn hf c1
    refine g_aload_n E 0 dJ7_fill_53178_10 rfl rfl ?_
    refine g_iload_n E 2 dJ7_fill_53178_11 rfl rfl ?_
    refine g_iload_n E 1 dJ7_fill_53178_12 rfl rfl ?_
    obtain ⟨hi2, hf⟩ := gd hf
    refine g_iast E 29 (cw k.2.2.2 (uA σ 29 x2.toNatClampNeg x1)) (σ.1 29) (cwG29 _ _) hi2 (cwA29 _ _ _ _) dJ7_fill_53178_13 ?_
    refine g_iinc E 2 [(2, .int (x2 + (1 : Int32))), (0, .ref (k.2.2.2.1 29)), (1, .int x1), (3, .int x3)] (x2 + (1 : Int32)) dJ7_fill_53178_14 rfl (by rfl) (by decide) rfl ?_
    refine g_goto (tgt := 5) E dJ7_fill_53178_17 (by decide) ?_
    exact g_sub [1, 2, 0, 3] rfl (hrc5 (uA σ 29 x2.toNatClampNeg x1) x1 (x2 + (1 : Int32)) x3 r hf)
theorem fJ7_fill_53178_29_v5 {k : gK} {X : gX} (E : gE k X cJ7_fill_53178 RJ7 wsJ7_fill_53178 4 none rm_fJ7_fill_53178_29) : ∀ (n : Nat) (σ : St) (x1 : Int32) (x2 : Int32) (x3 : Int32) (r : Unit × St), fJ7_fill_53178_29_l5 n σ x1 x2 x3 = some r → G k X 4 (none) (cw k.2.2.2 r.2) (cw k.2.2.2 σ) [(0, .ref (k.2.2.2.1 29)), (1, .int x1), (2, .int x2), (3, .int x3)] [] 5 := by
  intro n
  induction n with
  | zero => intro σ x1 x2 x3 r hf; cases hf
  | succ n ih => intro σ x1 x2 x3 r hf; exact fJ7_fill_53178_29_w5 E (fJ7_fill_53178_29_l5 n) ih σ x1 x2 x3 r hf
set_option maxHeartbeats 4000000 in
set_option maxRecDepth 100000 in
theorem fJ7_fill_53178_29_c (k : gK) (σ : St) (x1 : Int32) (r : Unit × St) (hf : fJ7_fill_53178_29 σ x1 = some r) : MC k yJ7_fill_53178 wsJ7_fill_53178 rm_fJ7_fill_53178_29 [.ref (k.2.2.2.1 29), .int x1] (cw k.2.2.2 σ) (none) (cw k.2.2.2 r.2) := by
  refine MC_of (cc := cJ7_fill_53178) (maxL := 4) (ret := none) (own := RJ7) (lvs := [(0, .ref (k.2.2.2.1 29)), (1, .int x1)]) (by decide) rfl rfl (Nat.le_of_ble_eq_true rfl) rfl (fun X E => ?_)
  unfold fJ7_fill_53178_29 at hf
  refine g_iconst (v := (0 : Int32)) E dJ7_fill_53178_0 (by decide) ?_
  refine g_istore_n E [(2, .int (0 : Int32)), (0, .ref (k.2.2.2.1 29)), (1, .int x1)] dJ7_fill_53178_1 rfl (by decide) rfl ?_
  refine g_aload_n E 1 dJ7_fill_53178_2 rfl rfl ?_
  refine g_alenI (v := (6 : Int32)) E 29 (σ.1 29) (cwG29 _ _) (by decide) dJ7_fill_53178_3 ?_
  refine g_istore_n E [(3, .int (6 : Int32)), (2, .int (0 : Int32)), (0, .ref (k.2.2.2.1 29)), (1, .int x1)] dJ7_fill_53178_4 rfl (by decide) rfl ?_
  exact g_sub [2, 3, 1, 0] rfl (fJ7_fill_53178_29_v5 E gF σ x1 (0 : Int32) (6 : Int32) r hf)
def rm_fJ7_fill_53178_28 : Room := { frames := 0, cells := 0, slots := 0, locals := 0 }
set_option maxHeartbeats 4000000 in
set_option maxRecDepth 100000 in
theorem fJ7_fill_53178_28_w5 {k : gK} {X : gX} (E : gE k X cJ7_fill_53178 RJ7 wsJ7_fill_53178 4 none rm_fJ7_fill_53178_28) (rc5 : St → Int32 → Int32 → Int32 → Option (Unit × St)) (hrc5 : ∀ (σ : St) (x1 : Int32) (x2 : Int32) (x3 : Int32) (r : Unit × St), rc5 σ x1 x2 x3 = some r → G k X 4 (none) (cw k.2.2.2 r.2) (cw k.2.2.2 σ) [(0, .ref (k.2.2.2.1 28)), (1, .int x1), (2, .int x2), (3, .int x3)] [] 5) (σ : St) (x1 : Int32) (x2 : Int32) (x3 : Int32) (r : Unit × St) (hf : fJ7_fill_53178_28_b5 rc5 σ x1 x2 x3 = some r) : G k X 4 (none) (cw k.2.2.2 r.2) (cw k.2.2.2 σ) [(0, .ref (k.2.2.2.1 28)), (1, .int x1), (2, .int x2), (3, .int x3)] [] 5 := by
  unfold fJ7_fill_53178_28_b5 at hf
  refine g_iload_n E 2 dJ7_fill_53178_5 rfl rfl ?_
  refine g_iload_n E 3 dJ7_fill_53178_6 rfl rfl ?_
  refine g_icmp_ge (tgt := 20) E dJ7_fill_53178_7 (by decide) (fun c1 => ?_) (fun c1 => ?_)
  · have hf := gp hf c1
    have hf := Option.some.inj hf
    subst hf
    exact g_vret E dJ7_fill_53178_20
  · have hf := gn hf c1
    refine g_aload_n E 0 dJ7_fill_53178_10 rfl rfl ?_
    refine g_iload_n E 2 dJ7_fill_53178_11 rfl rfl ?_
    refine g_iload_n E 1 dJ7_fill_53178_12 rfl rfl ?_
    obtain ⟨hi2, hf⟩ := gd hf
    refine g_iast E 28 (cw k.2.2.2 (uA σ 28 x2.toNatClampNeg x1)) (σ.1 28) (cwG28 _ _) hi2 (cwA28 _ _ _ _) dJ7_fill_53178_13 ?_
    refine g_iinc E 2 [(2, .int (x2 + (1 : Int32))), (0, .ref (k.2.2.2.1 28)), (1, .int x1), (3, .int x3)] (x2 + (1 : Int32)) dJ7_fill_53178_14 rfl (by rfl) (by decide) rfl ?_
    refine g_goto (tgt := 5) E dJ7_fill_53178_17 (by decide) ?_
    exact g_sub [1, 2, 0, 3] rfl (hrc5 (uA σ 28 x2.toNatClampNeg x1) x1 (x2 + (1 : Int32)) x3 r hf)
theorem fJ7_fill_53178_28_v5 {k : gK} {X : gX} (E : gE k X cJ7_fill_53178 RJ7 wsJ7_fill_53178 4 none rm_fJ7_fill_53178_28) : ∀ (n : Nat) (σ : St) (x1 : Int32) (x2 : Int32) (x3 : Int32) (r : Unit × St), fJ7_fill_53178_28_l5 n σ x1 x2 x3 = some r → G k X 4 (none) (cw k.2.2.2 r.2) (cw k.2.2.2 σ) [(0, .ref (k.2.2.2.1 28)), (1, .int x1), (2, .int x2), (3, .int x3)] [] 5 := by
  intro n
  induction n with
  | zero => intro σ x1 x2 x3 r hf; cases hf
  | succ n ih => intro σ x1 x2 x3 r hf; exact fJ7_fill_53178_28_w5 E (fJ7_fill_53178_28_l5 n) ih σ x1 x2 x3 r hf
set_option maxHeartbeats 4000000 in
set_option maxRecDepth 100000 in
theorem fJ7_fill_53178_28_c (k : gK) (σ : St) (x1 : Int32) (r : Unit × St) (hf : fJ7_fill_53178_28 σ x1 = some r) : MC k yJ7_fill_53178 wsJ7_fill_53178 rm_fJ7_fill_53178_28 [.ref (k.2.2.2.1 28), .int x1] (cw k.2.2.2 σ) (none) (cw k.2.2.2 r.2) := by
  refine MC_of (cc := cJ7_fill_53178) (maxL := 4) (ret := none) (own := RJ7) (lvs := [(0, .ref (k.2.2.2.1 28)), (1, .int x1)]) (by decide) rfl rfl (Nat.le_of_ble_eq_true rfl) rfl (fun X E => ?_)
  unfold fJ7_fill_53178_28 at hf
  refine g_iconst (v := (0 : Int32)) E dJ7_fill_53178_0 (by decide) ?_
  refine g_istore_n E [(2, .int (0 : Int32)), (0, .ref (k.2.2.2.1 28)), (1, .int x1)] dJ7_fill_53178_1 rfl (by decide) rfl ?_
  refine g_aload_n E 1 dJ7_fill_53178_2 rfl rfl ?_
  refine g_alenI (v := (6 : Int32)) E 28 (σ.1 28) (cwG28 _ _) (by decide) dJ7_fill_53178_3 ?_
  refine g_istore_n E [(3, .int (6 : Int32)), (2, .int (0 : Int32)), (0, .ref (k.2.2.2.1 28)), (1, .int x1)] dJ7_fill_53178_4 rfl (by decide) rfl ?_
  exact g_sub [2, 3, 1, 0] rfl (fJ7_fill_53178_28_v5 E gF σ x1 (0 : Int32) (6 : Int32) r hf)
theorem hi_X2_find_X2 : ∀ w ∈ wsX20, w ∈ wsX2_find := by decide +kernel
theorem hi_X2_find_X4 : ∀ w ∈ wsX40, w ∈ wsX2_find := by decide +kernel
theorem hk_X2_find_38 : Cond.fieldLink RX2 38 "PaperMarks$Match" "papers" "LPaperMarks$Papers;" ∈ wsX2_find := by decide +kernel
theorem hk_X2_find_48 : Cond.fieldLink RX2 48 "PaperMarks$Papers" "count" "I" ∈ wsX2_find := by decide +kernel
theorem hk_X2_find_9 : Cond.fieldLink RX2 9 "PaperMarks$Match" "sets" "[I" ∈ wsX2_find := by decide +kernel
theorem hk_X2_find_18 : Cond.fieldLink RX2 18 "PaperMarks$Match" "loads" "[I" ∈ wsX2_find := by decide +kernel
theorem hk_X2_find_15 : Cond.fieldLink RX2 15 "PaperMarks$Match" "wants" "[I" ∈ wsX2_find := by decide +kernel
def rm_fX2_find : Room := { frames := 5, cells := 0, slots := 0, locals := 114 }
set_option maxHeartbeats 4000000 in
set_option maxRecDepth 100000 in
theorem fX2_find_w26 {k : gK} {X : gX} (E : gE k X cX2_find RX2 wsX2_find 5 (some .boolean) rm_fX2_find) (rc26 : St → Int32 → Int32 → Int32 → Option (Int32 × St)) (hrc26 : ∀ (σ : St) (x1 : Int32) (x2 : Int32) (x3 : Int32) (r : Int32 × St), rc26 σ x1 x2 x3 = some r → G k X 5 (some (.int r.1)) (cw k.2.2.2 r.2) (cw k.2.2.2 σ) [(0, .ref (k.2.2.2.1 7)), (1, .int x1), (2, .int x2), (3, .int x3)] [] 26) (σ : St) (x1 : Int32) (x2 : Int32) (x3 : Int32) (r : Int32 × St) (hf : fX2_find_b26 rc26 σ x1 x2 x3 = some r) : G k X 5 (some (.int r.1)) (cw k.2.2.2 r.2) (cw k.2.2.2 σ) [(0, .ref (k.2.2.2.1 7)), (1, .int x1), (2, .int x2), (3, .int x3)] [] 26 := by
  unfold fX2_find_b26 at hf
  refine g_iload_n E 3 dX2_find_26 rfl rfl ?_
  refine g_iload_n E 1 dX2_find_27 rfl rfl ?_
  refine g_aload_n E 0 dX2_find_28 rfl rfl ?_
  refine g_get (C := RX2) (T := TX2) (N := 9) (ci := 2) E 7 1 (.ref (k.2.2.2.1 2)) hi_X2_find_X2 (cwG7 _ _) rfl (by decide) hk_X2_find_38 rfl dX2_find_29 ?_
  refine g_get (C := RX4) (T := TX4) (N := 6) (ci := 4) E 2 5 (.int (σ.2.1 1)) hi_X2_find_X4 (cwG2 _ _) rfl (by decide) hk_X2_find_48 rfl dX2_find_32 ?_
  refine g_imul E dX2_find_35 ?_
  refine g_icmp_ge (tgt := 71) E dX2_find_36 (by decide) (fun c1 => ?_) (fun c1 => ?_)
  · have hf := gp hf c1
    refine g_iconst (v := (1 : Int32)) E dX2_find_71 (by decide) ?_
    have hf := Option.some.inj hf
    subst hf
    exact g_zret E (Or.inr rfl) dX2_find_72
  · have hf := gn hf c1
    refine g_aload_n E 0 dX2_find_39 rfl rfl ?_
    obtain ⟨q2, hq3, hf⟩ := gb hf
    refine g_callV (C := RX2) (T := TX2) (N := 9) (ci := 2) (As := []) (rest := []) (n := 0) E 7 (fX2_spreadChains_c k σ  q2 hq3) gX2_find_X2_spreadChains rfl rfl rfl (by decide +kernel) ⟨Nat.le_of_ble_eq_true rfl, Nat.le_of_ble_eq_true rfl⟩ rfl rfl (Nat.le_of_ble_eq_true rfl) rfl (cwG7 _ _) dX2_find_40 ?_
    refine g_aload_n E 0 dX2_find_43 rfl rfl ?_
    refine g_iload_n E 2 dX2_find_44 rfl rfl ?_
    obtain ⟨q4, hq5, hf⟩ := gb hf
    refine g_callV (C := RX2) (T := TX2) (N := 9) (ci := 2) (As := [.int x2]) (rest := []) (n := 1) E 7 (fX2_bestEnd_c k q2.2 x2 q4 hq5) gX2_find_X2_bestEnd rfl rfl rfl (by decide +kernel) ⟨Nat.le_of_ble_eq_true rfl, Nat.le_of_ble_eq_true rfl⟩ rfl rfl (Nat.le_of_ble_eq_true rfl) rfl (cwG7 _ _) dX2_find_45 ?_
    refine g_istore E [(4, .int q4.1), (0, .ref (k.2.2.2.1 7)), (1, .int x1), (2, .int x2), (3, .int x3)] dX2_find_48 (by decide) rfl ?_
    refine g_iload E 0 dX2_find_50 rfl ?_
    refine g_bipush (v := (-6 : Int32)) E dX2_find_52 (by decide) ?_
    refine g_icmp_ne (tgt := 59) E dX2_find_54 (by decide) (fun c6 => ?_) (fun c6 => ?_)
    · have hf := gn hf c6
      refine g_aload_n E 1 dX2_find_59 rfl rfl ?_
      refine g_iload E 0 dX2_find_60 rfl ?_
      obtain ⟨q7, hq8, hf⟩ := gb hf
      refine g_callV (C := RX2) (T := TX2) (N := 9) (ci := 2) (As := [.int q4.1]) (rest := []) (n := 1) E 7 (fX2_change_c k q4.2 q4.1 q7 hq8) gX2_find_X2_change rfl rfl rfl (by decide +kernel) ⟨Nat.le_of_ble_eq_true rfl, Nat.le_of_ble_eq_true rfl⟩ rfl rfl (Nat.le_of_ble_eq_true rfl) rfl (cwG7 _ _) dX2_find_62 ?_
      refine g_iinc E 4 [(3, .int (x3 + (1 : Int32))), (4, .int q4.1), (0, .ref (k.2.2.2.1 7)), (1, .int x1), (2, .int x2)] (x3 + (1 : Int32)) dX2_find_65 rfl (by rfl) (by decide) rfl ?_
      refine g_goto (tgt := 26) E dX2_find_68 (by decide) ?_
      exact g_sub [2, 3, 4, 0] rfl (hrc26 q7.2 x1 x2 (x3 + (1 : Int32)) r hf)
    · have hf := gp hf c6
      refine g_iconst (v := (0 : Int32)) E dX2_find_57 (by decide) ?_
      have hf := Option.some.inj hf
      subst hf
      exact g_zret E (Or.inl rfl) dX2_find_58
theorem fX2_find_v26 {k : gK} {X : gX} (E : gE k X cX2_find RX2 wsX2_find 5 (some .boolean) rm_fX2_find) : ∀ (n : Nat) (σ : St) (x1 : Int32) (x2 : Int32) (x3 : Int32) (r : Int32 × St), fX2_find_l26 n σ x1 x2 x3 = some r → G k X 5 (some (.int r.1)) (cw k.2.2.2 r.2) (cw k.2.2.2 σ) [(0, .ref (k.2.2.2.1 7)), (1, .int x1), (2, .int x2), (3, .int x3)] [] 26 := by
  intro n
  induction n with
  | zero => intro σ x1 x2 x3 r hf; cases hf
  | succ n ih => intro σ x1 x2 x3 r hf; exact fX2_find_w26 E (fX2_find_l26 n) ih σ x1 x2 x3 r hf
set_option maxHeartbeats 4000000 in
set_option maxRecDepth 100000 in
theorem fX2_find_c (k : gK) (σ : St) (x1 : Int32) (x2 : Int32) (r : Int32 × St) (hf : fX2_find σ x1 x2 = some r) : MC k yX2_find wsX2_find rm_fX2_find [.ref (k.2.2.2.1 7), .int x1, .int x2] (cw k.2.2.2 σ) (some (.int r.1)) (cw k.2.2.2 r.2) := by
  refine MC_of (cc := cX2_find) (maxL := 5) (ret := (some .boolean)) (own := RX2) (lvs := [(0, .ref (k.2.2.2.1 7)), (1, .int x1), (2, .int x2)]) (by decide) rfl rfl (Nat.le_of_ble_eq_true rfl) rfl (fun X E => ?_)
  unfold fX2_find at hf
  refine g_aload_n E 0 dX2_find_0 rfl rfl ?_
  refine g_get (C := RX2) (T := TX2) (N := 9) (ci := 2) E 7 2 (.ref (k.2.2.2.1 27)) hi_X2_find_X2 (cwG7 _ _) rfl (by decide) hk_X2_find_9 rfl dX2_find_1 ?_
  refine g_iconst (v := (0 : Int32)) E dX2_find_4 (by decide) ?_
  obtain ⟨q1, hq2, hf⟩ := gb hf
  refine g_callS (As := [.ref (k.2.2.2.1 27), .int (0 : Int32)]) (rest := []) (n := 2) E (fJ7_fill_53178_27_c k σ (0 : Int32) q1 hq2) gX2_find_J7_fill_53178 rfl rfl rfl (by decide +kernel) ⟨Nat.le_of_ble_eq_true rfl, Nat.le_of_ble_eq_true rfl⟩ rfl rfl (Nat.le_of_ble_eq_true rfl) dX2_find_5 ?_
  refine g_aload_n E 0 dX2_find_8 rfl rfl ?_
  refine g_get (C := RX2) (T := TX2) (N := 9) (ci := 2) E 7 4 (.ref (k.2.2.2.1 29)) hi_X2_find_X2 (cwG7 _ _) rfl (by decide) hk_X2_find_18 rfl dX2_find_9 ?_
  refine g_iconst (v := (0 : Int32)) E dX2_find_12 (by decide) ?_
  obtain ⟨q3, hq4, hf⟩ := gb hf
  refine g_callS (As := [.ref (k.2.2.2.1 29), .int (0 : Int32)]) (rest := []) (n := 2) E (fJ7_fill_53178_29_c k q1.2 (0 : Int32) q3 hq4) gX2_find_J7_fill_53178 rfl rfl rfl (by decide +kernel) ⟨Nat.le_of_ble_eq_true rfl, Nat.le_of_ble_eq_true rfl⟩ rfl rfl (Nat.le_of_ble_eq_true rfl) dX2_find_13 ?_
  refine g_aload_n E 0 dX2_find_16 rfl rfl ?_
  refine g_get (C := RX2) (T := TX2) (N := 9) (ci := 2) E 7 3 (.ref (k.2.2.2.1 28)) hi_X2_find_X2 (cwG7 _ _) rfl (by decide) hk_X2_find_15 rfl dX2_find_17 ?_
  refine g_iload_n E 1 dX2_find_20 rfl rfl ?_
  obtain ⟨q5, hq6, hf⟩ := gb hf
  refine g_callS (As := [.ref (k.2.2.2.1 28), .int x1]) (rest := []) (n := 2) E (fJ7_fill_53178_28_c k q3.2 x1 q5 hq6) gX2_find_J7_fill_53178 rfl rfl rfl (by decide +kernel) ⟨Nat.le_of_ble_eq_true rfl, Nat.le_of_ble_eq_true rfl⟩ rfl rfl (Nat.le_of_ble_eq_true rfl) dX2_find_21 ?_
  refine g_iconst (v := (0 : Int32)) E dX2_find_24 (by decide) ?_
  refine g_istore_n E [(3, .int (0 : Int32)), (0, .ref (k.2.2.2.1 7)), (1, .int x1), (2, .int x2)] dX2_find_25 rfl (by decide) rfl ?_
  exact g_sub [1, 2, 3, 0] rfl (fX2_find_v26 E gF q5.2 x1 x2 (0 : Int32) r hf)
