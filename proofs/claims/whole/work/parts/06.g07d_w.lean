theorem hi_X9_yesOf_X9 : ∀ w ∈ wsX90, w ∈ wsX9_yesOf := by decide +kernel
theorem hk_X9_yesOf_118 : Cond.fieldLink RX9 118 "PaperMarksModel" "clauses" "I" ∈ wsX9_yesOf := by decide +kernel
theorem hk_X9_yesOf_43 : Cond.fieldLink RX9 43 "PaperMarksModel" "clauseJoin" "[I" ∈ wsX9_yesOf := by decide +kernel
theorem hk_X9_yesOf_46 : Cond.fieldLink RX9 46 "PaperMarksModel" "clauseOver" "[I" ∈ wsX9_yesOf := by decide +kernel
theorem hk_X9_yesOf_49 : Cond.fieldLink RX9 49 "PaperMarksModel" "clauseCoin" "[I" ∈ wsX9_yesOf := by decide +kernel
theorem hk_X9_yesOf_52 : Cond.fieldLink RX9 52 "PaperMarksModel" "given" "[I" ∈ wsX9_yesOf := by decide +kernel
def rm_fX9_yesOf : Room := { frames := 1, cells := 0, slots := 0, locals := 28 }
set_option maxHeartbeats 4000000 in
set_option maxRecDepth 100000 in
theorem fX9_yesOf_w27 {k : gK} {X : gX} (E : gE k X cX9_yesOf RX9 wsX9_yesOf 3 (some .int) rm_fX9_yesOf) (rc27 : St → Int32 → Int32 → Option (Int32 × St)) (hrc27 : ∀ (σ : St) (x1 : Int32) (x2 : Int32) (r : Int32 × St), rc27 σ x1 x2 = some r → G k X 3 (some (.int r.1)) (mw k.2.2.2 r.2) (mw k.2.2.2 σ) [(0, .ref (k.2.2.2.1 0)), (1, .int x1), (2, .int x2)] [] 27) (σ : St) (x1 : Int32) (x2 : Int32) (r : Int32 × St) (hf : fX9_yesOf_b27 rc27 σ x1 x2 = some r) : G k X 3 (some (.int r.1)) (mw k.2.2.2 r.2) (mw k.2.2.2 σ) [(0, .ref (k.2.2.2.1 0)), (1, .int x1), (2, .int x2)] [] 27 := by
  unfold fX9_yesOf_b27 at hf
  refine g_iload_n E 2 dX9_yesOf_27 rfl rfl ?_
  refine g_aload_n E 0 dX9_yesOf_28 rfl rfl ?_
  refine g_get (C := RX9) (T := TX9) (N := 20) (ci := 9) E 0 17 (.int (σ.2.1 3)) hi_X9_yesOf_X9 (mwG0 _ _) rfl (by decide) hk_X9_yesOf_118 rfl dX9_yesOf_29 ?_
  refine g_icmp_ge (tgt := 72) E dX9_yesOf_32 (by decide) (fun c1 => ?_) (fun c1 => ?_)
  · have hf := gp hf c1
    refine g_iconst (v := (0 : Int32)) E dX9_yesOf_72 (by decide) ?_
    have hf := Option.some.inj hf
    subst hf
    exact g_iret E dX9_yesOf_73
  · have hf := gn hf c1
    refine g_iload_n E 1 dX9_yesOf_35 rfl rfl ?_
    refine g_if_le (tgt := 72) E dX9_yesOf_36 (by decide) (fun c2 => ?_) (fun c2 => ?_)
    · have hf := gp hf c2
      refine g_iconst (v := (0 : Int32)) E dX9_yesOf_72 (by decide) ?_
      have hf := Option.some.inj hf
      subst hf
      exact g_iret E dX9_yesOf_73
    · have hf := gn hf c2
      refine g_aload_n E 0 dX9_yesOf_39 rfl rfl ?_
      refine g_aload_n E 0 dX9_yesOf_40 rfl rfl ?_
      refine g_get (C := RX9) (T := TX9) (N := 20) (ci := 9) E 0 14 (.ref (k.2.2.2.1 12)) hi_X9_yesOf_X9 (mwG0 _ _) rfl (by decide) hk_X9_yesOf_43 rfl dX9_yesOf_41 ?_
      refine g_iload_n E 2 dX9_yesOf_44 rfl rfl ?_
      obtain ⟨hi3, hf⟩ := gd hf
      refine g_iald E 12 (σ.1 12) (mwG12 _ _) hi3 dX9_yesOf_45 ?_
      refine g_iload_n E 1 dX9_yesOf_46 rfl rfl ?_
      obtain ⟨q4, hq5, hf⟩ := gb hf
      refine g_callV (C := RX9) (T := TX9) (N := 20) (ci := 9) (As := [.int (σ.1 12 x2.toNatClampNeg), .int x1]) (rest := []) (n := 2) E 0 (fX9_joinOf_c k σ (σ.1 12 x2.toNatClampNeg) x1 q4 hq5) gX9_yesOf_X9_joinOf rfl rfl rfl (by decide +kernel) ⟨Nat.le_of_ble_eq_true rfl, Nat.le_of_ble_eq_true rfl⟩ rfl rfl (Nat.le_of_ble_eq_true rfl) rfl (mwG0 _ _) dX9_yesOf_47 ?_
      refine g_aload_n E 0 dX9_yesOf_50 rfl rfl ?_
      refine g_get (C := RX9) (T := TX9) (N := 20) (ci := 9) E 0 15 (.ref (k.2.2.2.1 13)) hi_X9_yesOf_X9 (mwG0 _ _) rfl (by decide) hk_X9_yesOf_46 rfl dX9_yesOf_51 ?_
      refine g_iload_n E 2 dX9_yesOf_54 rfl rfl ?_
      obtain ⟨hi6, hf⟩ := gd hf
      refine g_iald E 13 (q4.2.1 13) (mwG13 _ _) hi6 dX9_yesOf_55 ?_
      refine g_icmp_le (tgt := 66) E dX9_yesOf_56 (by decide) (fun c7 => ?_) (fun c7 => ?_)
      · have hf := gp hf c7
        refine g_iinc E 2 [(2, .int (x2 + (1 : Int32))), (0, .ref (k.2.2.2.1 0)), (1, .int x1)] (x2 + (1 : Int32)) dX9_yesOf_66 rfl (by rfl) (by decide) rfl ?_
        refine g_goto (tgt := 27) E dX9_yesOf_69 (by decide) ?_
        exact g_sub [1, 2, 0] rfl (hrc27 q4.2 x1 (x2 + (1 : Int32)) r hf)
      · have hf := gn hf c7
        refine g_aload_n E 0 dX9_yesOf_59 rfl rfl ?_
        refine g_get (C := RX9) (T := TX9) (N := 20) (ci := 9) E 0 16 (.ref (k.2.2.2.1 14)) hi_X9_yesOf_X9 (mwG0 _ _) rfl (by decide) hk_X9_yesOf_49 rfl dX9_yesOf_60 ?_
        refine g_iload_n E 2 dX9_yesOf_63 rfl rfl ?_
        obtain ⟨hi8, hf⟩ := gd hf
        refine g_iald E 14 (q4.2.1 14) (mwG14 _ _) hi8 dX9_yesOf_64 ?_
        have hf := Option.some.inj hf
        subst hf
        exact g_iret E dX9_yesOf_65
theorem fX9_yesOf_v27 {k : gK} {X : gX} (E : gE k X cX9_yesOf RX9 wsX9_yesOf 3 (some .int) rm_fX9_yesOf) : ∀ (n : Nat) (σ : St) (x1 : Int32) (x2 : Int32) (r : Int32 × St), fX9_yesOf_l27 n σ x1 x2 = some r → G k X 3 (some (.int r.1)) (mw k.2.2.2 r.2) (mw k.2.2.2 σ) [(0, .ref (k.2.2.2.1 0)), (1, .int x1), (2, .int x2)] [] 27 := by
  intro n
  induction n with
  | zero => intro σ x1 x2 r hf; cases hf
  | succ n ih => intro σ x1 x2 r hf; exact fX9_yesOf_w27 E (fX9_yesOf_l27 n) ih σ x1 x2 r hf
set_option maxHeartbeats 4000000 in
set_option maxRecDepth 100000 in
theorem fX9_yesOf_w4 {k : gK} {X : gX} (E : gE k X cX9_yesOf RX9 wsX9_yesOf 3 (some .int) rm_fX9_yesOf) (rc4 : St → Int32 → Int32 → Option (Int32 × St)) (hrc4 : ∀ (σ : St) (x1 : Int32) (x2 : Int32) (r : Int32 × St), rc4 σ x1 x2 = some r → G k X 3 (some (.int r.1)) (mw k.2.2.2 r.2) (mw k.2.2.2 σ) [(0, .ref (k.2.2.2.1 0)), (1, .int x1), (2, .int x2)] [] 4) (σ : St) (x1 : Int32) (x2 : Int32) (r : Int32 × St) (hf : fX9_yesOf_b4 rc4 σ x1 x2 = some r) : G k X 3 (some (.int r.1)) (mw k.2.2.2 r.2) (mw k.2.2.2 σ) [(0, .ref (k.2.2.2.1 0)), (1, .int x1), (2, .int x2)] [] 4 := by
  unfold fX9_yesOf_b4 at hf
  refine g_iload_n E 2 dX9_yesOf_4 rfl rfl ?_
  refine g_bipush (v := (6 : Int32)) E dX9_yesOf_5 (by decide) ?_
  refine g_icmp_ge (tgt := 25) E dX9_yesOf_7 (by decide) (fun c1 => ?_) (fun c1 => ?_)
  · have hf := gp hf c1
    refine g_iconst (v := (0 : Int32)) E dX9_yesOf_25 (by decide) ?_
    refine g_istore_n E [(2, .int (0 : Int32)), (0, .ref (k.2.2.2.1 0)), (1, .int x1)] dX9_yesOf_26 rfl (by decide) rfl ?_
    exact g_sub [1, 2, 0] rfl (fX9_yesOf_v27 E gF σ x1 (0 : Int32) r hf)
  · have hf := gn hf c1
    refine g_iload_n E 1 dX9_yesOf_10 rfl rfl ?_
    refine g_aload_n E 0 dX9_yesOf_11 rfl rfl ?_
    refine g_get (C := RX9) (T := TX9) (N := 20) (ci := 9) E 0 18 (.ref (k.2.2.2.1 15)) hi_X9_yesOf_X9 (mwG0 _ _) rfl (by decide) hk_X9_yesOf_52 rfl dX9_yesOf_12 ?_
    refine g_iload_n E 2 dX9_yesOf_15 rfl rfl ?_
    obtain ⟨hi2, hf⟩ := gd hf
    refine g_iald E 15 (σ.1 15) (mwG15 _ _) hi2 dX9_yesOf_16 ?_
    refine g_iadd E dX9_yesOf_17 ?_
    refine g_istore_n E [(1, .int (x1 + (σ.1 15 x2.toNatClampNeg))), (0, .ref (k.2.2.2.1 0)), (2, .int x2)] dX9_yesOf_18 rfl (by decide) rfl ?_
    refine g_iinc E 2 [(2, .int (x2 + (1 : Int32))), (1, .int (x1 + (σ.1 15 x2.toNatClampNeg))), (0, .ref (k.2.2.2.1 0))] (x2 + (1 : Int32)) dX9_yesOf_19 rfl (by rfl) (by decide) rfl ?_
    refine g_goto (tgt := 4) E dX9_yesOf_22 (by decide) ?_
    exact g_sub [2, 1, 0] rfl (hrc4 σ (x1 + (σ.1 15 x2.toNatClampNeg)) (x2 + (1 : Int32)) r hf)
theorem fX9_yesOf_v4 {k : gK} {X : gX} (E : gE k X cX9_yesOf RX9 wsX9_yesOf 3 (some .int) rm_fX9_yesOf) : ∀ (n : Nat) (σ : St) (x1 : Int32) (x2 : Int32) (r : Int32 × St), fX9_yesOf_l4 n σ x1 x2 = some r → G k X 3 (some (.int r.1)) (mw k.2.2.2 r.2) (mw k.2.2.2 σ) [(0, .ref (k.2.2.2.1 0)), (1, .int x1), (2, .int x2)] [] 4 := by
  intro n
  induction n with
  | zero => intro σ x1 x2 r hf; cases hf
  | succ n ih => intro σ x1 x2 r hf; exact fX9_yesOf_w4 E (fX9_yesOf_l4 n) ih σ x1 x2 r hf
set_option maxHeartbeats 4000000 in
set_option maxRecDepth 100000 in
theorem fX9_yesOf_c (k : gK) (σ : St) (r : Int32 × St) (hf : fX9_yesOf σ = some r) : MC k yX9_yesOf wsX9_yesOf rm_fX9_yesOf [.ref (k.2.2.2.1 0)] (mw k.2.2.2 σ) (some (.int r.1)) (mw k.2.2.2 r.2) := by
  refine MC_of (cc := cX9_yesOf) (maxL := 3) (ret := (some .int)) (own := RX9) (lvs := [(0, .ref (k.2.2.2.1 0))]) (by decide) rfl rfl (Nat.le_of_ble_eq_true rfl) rfl (fun X E => ?_)
  unfold fX9_yesOf at hf
  refine g_iconst (v := (0 : Int32)) E dX9_yesOf_0 (by decide) ?_
  refine g_istore_n E [(1, .int (0 : Int32)), (0, .ref (k.2.2.2.1 0))] dX9_yesOf_1 rfl (by decide) rfl ?_
  refine g_iconst (v := (0 : Int32)) E dX9_yesOf_2 (by decide) ?_
  refine g_istore_n E [(2, .int (0 : Int32)), (1, .int (0 : Int32)), (0, .ref (k.2.2.2.1 0))] dX9_yesOf_3 rfl (by decide) rfl ?_
  exact g_sub [2, 1, 0] rfl (fX9_yesOf_v4 E gF σ (0 : Int32) (0 : Int32) r hf)
theorem hi_X9_clearGiven_X9 : ∀ w ∈ wsX90, w ∈ wsX9_clearGiven := by decide +kernel
theorem hk_X9_clearGiven_52 : Cond.fieldLink RX9 52 "PaperMarksModel" "given" "[I" ∈ wsX9_clearGiven := by decide +kernel
def rm_fX9_clearGiven : Room := { frames := 0, cells := 0, slots := 0, locals := 0 }
set_option maxHeartbeats 4000000 in
set_option maxRecDepth 100000 in
theorem fX9_clearGiven_w2 {k : gK} {X : gX} (E : gE k X cX9_clearGiven RX9 wsX9_clearGiven 2 none rm_fX9_clearGiven) (rc2 : St → Int32 → Option (Unit × St)) (hrc2 : ∀ (σ : St) (x1 : Int32) (r : Unit × St), rc2 σ x1 = some r → G k X 2 (none) (mw k.2.2.2 r.2) (mw k.2.2.2 σ) [(0, .ref (k.2.2.2.1 0)), (1, .int x1)] [] 2) (σ : St) (x1 : Int32) (r : Unit × St) (hf : fX9_clearGiven_b2 rc2 σ x1 = some r) : G k X 2 (none) (mw k.2.2.2 r.2) (mw k.2.2.2 σ) [(0, .ref (k.2.2.2.1 0)), (1, .int x1)] [] 2 := by
  unfold fX9_clearGiven_b2 at hf
  refine g_iload_n E 1 dX9_clearGiven_2 rfl rfl ?_
  refine g_bipush (v := (6 : Int32)) E dX9_clearGiven_3 (by decide) ?_
  refine g_icmp_ge (tgt := 21) E dX9_clearGiven_5 (by decide) (fun c1 => ?_) (fun c1 => ?_)
  · have hf := gp hf c1
    have hf := Option.some.inj hf
    subst hf
    exact g_vret E dX9_clearGiven_21
  · have hf := gn hf c1
    refine g_aload_n E 0 dX9_clearGiven_8 rfl rfl ?_
    refine g_get (C := RX9) (T := TX9) (N := 20) (ci := 9) E 0 18 (.ref (k.2.2.2.1 15)) hi_X9_clearGiven_X9 (mwG0 _ _) rfl (by decide) hk_X9_clearGiven_52 rfl dX9_clearGiven_9 ?_
    refine g_iload_n E 1 dX9_clearGiven_12 rfl rfl ?_
    refine g_iconst (v := (0 : Int32)) E dX9_clearGiven_13 (by decide) ?_
    obtain ⟨hi2, hf⟩ := gd hf
    refine g_iast E 15 (mw k.2.2.2 (uA σ 15 x1.toNatClampNeg (0 : Int32))) (σ.1 15) (mwG15 _ _) hi2 (mwA15 _ _ _ _) dX9_clearGiven_14 ?_
    refine g_iinc E 1 [(1, .int (x1 + (1 : Int32))), (0, .ref (k.2.2.2.1 0))] (x1 + (1 : Int32)) dX9_clearGiven_15 rfl (by rfl) (by decide) rfl ?_
    refine g_goto (tgt := 2) E dX9_clearGiven_18 (by decide) ?_
    exact g_sub [1, 0] rfl (hrc2 (uA σ 15 x1.toNatClampNeg (0 : Int32)) (x1 + (1 : Int32)) r hf)
theorem fX9_clearGiven_v2 {k : gK} {X : gX} (E : gE k X cX9_clearGiven RX9 wsX9_clearGiven 2 none rm_fX9_clearGiven) : ∀ (n : Nat) (σ : St) (x1 : Int32) (r : Unit × St), fX9_clearGiven_l2 n σ x1 = some r → G k X 2 (none) (mw k.2.2.2 r.2) (mw k.2.2.2 σ) [(0, .ref (k.2.2.2.1 0)), (1, .int x1)] [] 2 := by
  intro n
  induction n with
  | zero => intro σ x1 r hf; cases hf
  | succ n ih => intro σ x1 r hf; exact fX9_clearGiven_w2 E (fX9_clearGiven_l2 n) ih σ x1 r hf
set_option maxHeartbeats 4000000 in
set_option maxRecDepth 100000 in
theorem fX9_clearGiven_c (k : gK) (σ : St) (r : Unit × St) (hf : fX9_clearGiven σ = some r) : MC k yX9_clearGiven wsX9_clearGiven rm_fX9_clearGiven [.ref (k.2.2.2.1 0)] (mw k.2.2.2 σ) (none) (mw k.2.2.2 r.2) := by
  refine MC_of (cc := cX9_clearGiven) (maxL := 2) (ret := none) (own := RX9) (lvs := [(0, .ref (k.2.2.2.1 0))]) (by decide) rfl rfl (Nat.le_of_ble_eq_true rfl) rfl (fun X E => ?_)
  unfold fX9_clearGiven at hf
  refine g_iconst (v := (0 : Int32)) E dX9_clearGiven_0 (by decide) ?_
  refine g_istore_n E [(1, .int (0 : Int32)), (0, .ref (k.2.2.2.1 0))] dX9_clearGiven_1 rfl (by decide) rfl ?_
  exact g_sub [1, 0] rfl (fX9_clearGiven_v2 E gF σ (0 : Int32) r hf)
theorem hi_X9_yes_X9 : ∀ w ∈ wsX90, w ∈ wsX9_yes := by decide +kernel
theorem hk_X9_yes_63 : Cond.fieldLink RX9 63 "PaperMarksModel" "judges" "I" ∈ wsX9_yes := by decide +kernel
theorem hk_X9_yes_34 : Cond.fieldLink RX9 34 "PaperMarksModel" "marks" "[I" ∈ wsX9_yes := by decide +kernel
theorem hk_X9_yes_52 : Cond.fieldLink RX9 52 "PaperMarksModel" "given" "[I" ∈ wsX9_yes := by decide +kernel
theorem hk_X9_yes_118 : Cond.fieldLink RX9 118 "PaperMarksModel" "clauses" "I" ∈ wsX9_yes := by decide +kernel
def rm_fX9_yes : Room := { frames := 2, cells := 0, slots := 0, locals := 50 }
set_option maxHeartbeats 4000000 in
set_option maxRecDepth 100000 in
theorem fX9_yes_w59 {k : gK} {X : gX} (E : gE k X cX9_yes RX9 wsX9_yes 4 (some .int) rm_fX9_yes) (rc26 : St → Int32 → Int32 → Option (Int32 × St)) (hrc26 : ∀ (σ : St) (x1 : Int32) (x2 : Int32) (r : Int32 × St), rc26 σ x1 x2 = some r → G k X 4 (some (.int r.1)) (mw k.2.2.2 r.2) (mw k.2.2.2 σ) [(0, .ref (k.2.2.2.1 0)), (1, .int x1), (2, .int x2)] [] 26) (σ : St) (x1 : Int32) (x2 : Int32) (r : Int32 × St) (hf : fX9_yes_b59 rc26 σ x1 x2 = some r) : G k X 4 (some (.int r.1)) (mw k.2.2.2 r.2) (mw k.2.2.2 σ) [(0, .ref (k.2.2.2.1 0)), (1, .int x1), (2, .int x2)] [] 59 := by
  unfold fX9_yes_b59 at hf
  refine g_iinc E 2 [(2, .int (x2 + (1 : Int32))), (0, .ref (k.2.2.2.1 0)), (1, .int x1)] (x2 + (1 : Int32)) dX9_yes_59 rfl (by rfl) (by decide) rfl ?_
  refine g_goto (tgt := 26) E dX9_yes_62 (by decide) ?_
  exact g_sub [1, 2, 0] rfl (hrc26 σ x1 (x2 + (1 : Int32)) r hf)
set_option maxHeartbeats 4000000 in
set_option maxRecDepth 100000 in
theorem fX9_yes_w26 {k : gK} {X : gX} (E : gE k X cX9_yes RX9 wsX9_yes 4 (some .int) rm_fX9_yes) (rc26 : St → Int32 → Int32 → Option (Int32 × St)) (hrc26 : ∀ (σ : St) (x1 : Int32) (x2 : Int32) (r : Int32 × St), rc26 σ x1 x2 = some r → G k X 4 (some (.int r.1)) (mw k.2.2.2 r.2) (mw k.2.2.2 σ) [(0, .ref (k.2.2.2.1 0)), (1, .int x1), (2, .int x2)] [] 26) (σ : St) (x1 : Int32) (x2 : Int32) (r : Int32 × St) (hf : fX9_yes_b26 rc26 σ x1 x2 = some r) : G k X 4 (some (.int r.1)) (mw k.2.2.2 r.2) (mw k.2.2.2 σ) [(0, .ref (k.2.2.2.1 0)), (1, .int x1), (2, .int x2)] [] 26 := by
  unfold fX9_yes_b26 at hf
  refine g_iload_n E 2 dX9_yes_26 rfl rfl ?_
  refine g_aload_n E 0 dX9_yes_27 rfl rfl ?_
  refine g_get (C := RX9) (T := TX9) (N := 20) (ci := 9) E 0 3 (.int (σ.2.1 0)) hi_X9_yes_X9 (mwG0 _ _) rfl (by decide) hk_X9_yes_63 rfl dX9_yes_28 ?_
  refine g_icmp_ge (tgt := 65) E dX9_yes_31 (by decide) (fun c1 => ?_) (fun c1 => ?_)
  · have hf := gp hf c1
    refine g_aload_n E 0 dX9_yes_65 rfl rfl ?_
    obtain ⟨q2, hq3, hf⟩ := gb hf
    refine g_callV (C := RX9) (T := TX9) (N := 20) (ci := 9) (As := []) (rest := []) (n := 0) E 0 (fX9_yesOf_c k σ  q2 hq3) gX9_yes_X9_yesOf rfl rfl rfl (by decide +kernel) ⟨Nat.le_of_ble_eq_true rfl, Nat.le_of_ble_eq_true rfl⟩ rfl rfl (Nat.le_of_ble_eq_true rfl) rfl (mwG0 _ _) dX9_yes_66 ?_
    have hf := Option.some.inj hf
    subst hf
    exact g_iret E dX9_yes_69
  · have hf := gn hf c1
    refine g_aload_n E 0 dX9_yes_34 rfl rfl ?_
    refine g_get (C := RX9) (T := TX9) (N := 20) (ci := 9) E 0 10 (.ref (k.2.2.2.1 9)) hi_X9_yes_X9 (mwG0 _ _) rfl (by decide) hk_X9_yes_34 rfl dX9_yes_35 ?_
    refine g_iload_n E 2 dX9_yes_38 rfl rfl ?_
    refine g_iload_n E 1 dX9_yes_39 rfl rfl ?_
    obtain ⟨q4, hq5, hf⟩ := gb hf
    refine g_callS (As := [.int x2, .int x1]) (rest := [.ref (k.2.2.2.1 9)]) (n := 2) E (fX9_at_c k σ x2 x1 q4 hq5) gX9_yes_X9_at rfl rfl rfl (by decide +kernel) ⟨Nat.le_of_ble_eq_true rfl, Nat.le_of_ble_eq_true rfl⟩ rfl rfl (Nat.le_of_ble_eq_true rfl) dX9_yes_40 ?_
    obtain ⟨hi6, hf⟩ := gd hf
    refine g_iald E 9 (q4.2.1 9) (mwG9 _ _) hi6 dX9_yes_43 ?_
    refine g_istore_n E [(3, .int (q4.2.1 9 q4.1.toNatClampNeg)), (0, .ref (k.2.2.2.1 0)), (1, .int x1), (2, .int x2)] dX9_yes_44 rfl (by decide) rfl ?_
    refine g_iload_n E 0 dX9_yes_45 rfl rfl ?_
    refine g_if_lt (tgt := 59) E dX9_yes_46 (by decide) (fun c7 => ?_) (fun c7 => ?_)
    · have hf := gp hf c7
      exact g_sub [1, 2, 3] rfl (fX9_yes_w59 E rc26 hrc26 q4.2 x1 x2 r hf)
    · have hf := gn hf c7
      refine g_aload_n E 1 dX9_yes_49 rfl rfl ?_
      refine g_get (C := RX9) (T := TX9) (N := 20) (ci := 9) E 0 18 (.ref (k.2.2.2.1 15)) hi_X9_yes_X9 (mwG0 _ _) rfl (by decide) hk_X9_yes_52 rfl dX9_yes_50 ?_
      refine g_iload_n E 0 dX9_yes_53 rfl rfl ?_
      refine g_dup2 E dX9_yes_54 rfl rfl ?_
      obtain ⟨hi8, hf⟩ := gd hf
      refine g_iald E 15 (q4.2.1 15) (mwG15 _ _) hi8 dX9_yes_55 ?_
      refine g_iconst (v := (1 : Int32)) E dX9_yes_56 (by decide) ?_
      refine g_iadd E dX9_yes_57 ?_
      obtain ⟨hi9, hf⟩ := gd hf
      refine g_iast E 15 (mw k.2.2.2 (uA q4.2 15 (q4.2.1 9 q4.1.toNatClampNeg).toNatClampNeg ((((q4.2.1 15 (q4.2.1 9 q4.1.toNatClampNeg).toNatClampNeg)) + (1 : Int32))))) (q4.2.1 15) (mwG15 _ _) hi9 (mwA15 _ _ _ _) dX9_yes_58 ?_
      exact g_sub [1, 2, 3] rfl (fX9_yes_w59 E rc26 hrc26 (uA q4.2 15 (q4.2.1 9 q4.1.toNatClampNeg).toNatClampNeg ((((q4.2.1 15 (q4.2.1 9 q4.1.toNatClampNeg).toNatClampNeg)) + (1 : Int32)))) x1 x2 r hf)
theorem fX9_yes_v26 {k : gK} {X : gX} (E : gE k X cX9_yes RX9 wsX9_yes 4 (some .int) rm_fX9_yes) : ∀ (n : Nat) (σ : St) (x1 : Int32) (x2 : Int32) (r : Int32 × St), fX9_yes_l26 n σ x1 x2 = some r → G k X 4 (some (.int r.1)) (mw k.2.2.2 r.2) (mw k.2.2.2 σ) [(0, .ref (k.2.2.2.1 0)), (1, .int x1), (2, .int x2)] [] 26 := by
  intro n
  induction n with
  | zero => intro σ x1 x2 r hf; cases hf
  | succ n ih => intro σ x1 x2 r hf; exact fX9_yes_w26 E (fX9_yes_l26 n) ih σ x1 x2 r hf
set_option maxHeartbeats 4000000 in
set_option maxRecDepth 100000 in
theorem fX9_yes_c (k : gK) (σ : St) (x1 : Int32) (r : Int32 × St) (hf : fX9_yes σ x1 = some r) : MC k yX9_yes wsX9_yes rm_fX9_yes [.ref (k.2.2.2.1 0), .int x1] (mw k.2.2.2 σ) (some (.int r.1)) (mw k.2.2.2 r.2) := by
  refine MC_of (cc := cX9_yes) (maxL := 4) (ret := (some .int)) (own := RX9) (lvs := [(0, .ref (k.2.2.2.1 0)), (1, .int x1)]) (by decide) rfl rfl (Nat.le_of_ble_eq_true rfl) rfl (fun X E => ?_)
  unfold fX9_yes at hf
  refine g_aload_n E 0 dX9_yes_0 rfl rfl ?_
  refine g_iload_n E 1 dX9_yes_1 rfl rfl ?_
  obtain ⟨q1, hq2, hf⟩ := gb hf
  refine g_callV (C := RX9) (T := TX9) (N := 20) (ci := 9) (As := [.int x1]) (rest := []) (n := 1) E 0 (fX9_isPaper_c k σ x1 q1 hq2) gX9_yes_X9_isPaper rfl rfl rfl (by decide +kernel) ⟨Nat.le_of_ble_eq_true rfl, Nat.le_of_ble_eq_true rfl⟩ rfl rfl (Nat.le_of_ble_eq_true rfl) rfl (mwG0 _ _) dX9_yes_2 ?_
  refine g_if_ne (tgt := 10) E dX9_yes_5 (by decide) (fun c3 => ?_) (fun c3 => ?_)
  · have hf := gn hf c3
    refine g_aload_n E 0 dX9_yes_10 rfl rfl ?_
    refine g_get (C := RX9) (T := TX9) (N := 20) (ci := 9) E 0 17 (.int (q1.2.2.1 3)) hi_X9_yes_X9 (mwG0 _ _) rfl (by decide) hk_X9_yes_118 rfl dX9_yes_11 ?_
    refine g_if_ne (tgt := 20) E dX9_yes_14 (by decide) (fun c4 => ?_) (fun c4 => ?_)
    · have hf := gn hf c4
      refine g_aload_n E 0 dX9_yes_20 rfl rfl ?_
      obtain ⟨q5, hq6, hf⟩ := gb hf
      refine g_callV (C := RX9) (T := TX9) (N := 20) (ci := 9) (As := []) (rest := []) (n := 0) E 0 (fX9_clearGiven_c k q1.2  q5 hq6) gX9_yes_X9_clearGiven rfl rfl rfl (by decide +kernel) ⟨Nat.le_of_ble_eq_true rfl, Nat.le_of_ble_eq_true rfl⟩ rfl rfl (Nat.le_of_ble_eq_true rfl) rfl (mwG0 _ _) dX9_yes_21 ?_
      refine g_iconst (v := (0 : Int32)) E dX9_yes_24 (by decide) ?_
      refine g_istore_n E [(2, .int (0 : Int32)), (0, .ref (k.2.2.2.1 0)), (1, .int x1)] dX9_yes_25 rfl (by decide) rfl ?_
      exact g_sub [1, 2, 0] rfl (fX9_yes_v26 E gF q5.2 x1 (0 : Int32) r hf)
    · have hf := gp hf c4
      refine g_bipush (v := (-3 : Int32)) E dX9_yes_17 (by decide) ?_
      have hf := Option.some.inj hf
      subst hf
      exact g_iret E dX9_yes_19
  · have hf := gp hf c3
    refine g_iconst (v := (-1 : Int32)) E dX9_yes_8 (by decide) ?_
    have hf := Option.some.inj hf
    subst hf
    exact g_iret E dX9_yes_9
theorem hi_X9_isSet_X9 : ∀ w ∈ wsX90, w ∈ wsX9_isSet := by decide +kernel
theorem hk_X9_isSet_63 : Cond.fieldLink RX9 63 "PaperMarksModel" "judges" "I" ∈ wsX9_isSet := by decide +kernel
def rm_fX9_isSet : Room := { frames := 1, cells := 0, slots := 0, locals := 25 }
set_option maxHeartbeats 4000000 in
set_option maxRecDepth 100000 in
theorem fX9_isSet_c (k : gK) (σ : St) (x1 : Int32) (r : Int32 × St) (hf : fX9_isSet σ x1 = some r) : MC k yX9_isSet wsX9_isSet rm_fX9_isSet [.ref (k.2.2.2.1 0), .int x1] (mw k.2.2.2 σ) (some (.int r.1)) (mw k.2.2.2 r.2) := by
  refine MC_of (cc := cX9_isSet) (maxL := 2) (ret := (some .boolean)) (own := RX9) (lvs := [(0, .ref (k.2.2.2.1 0)), (1, .int x1)]) (by decide) rfl rfl (Nat.le_of_ble_eq_true rfl) rfl (fun X E => ?_)
  unfold fX9_isSet at hf
  refine g_iload_n E 1 dX9_isSet_0 rfl rfl ?_
  refine g_i2l E dX9_isSet_1 ?_
  refine g_lconst (v := (0 : Int64)) E dX9_isSet_2 (by decide) ?_
  refine g_iconst (v := (1 : Int32)) E dX9_isSet_3 (by decide) ?_
  refine g_aload_n E 0 dX9_isSet_4 rfl rfl ?_
  refine g_get (C := RX9) (T := TX9) (N := 20) (ci := 9) E 0 3 (.int (σ.2.1 0)) hi_X9_isSet_X9 (mwG0 _ _) rfl (by decide) hk_X9_isSet_63 rfl dX9_isSet_5 ?_
  refine g_ishl E dX9_isSet_8 ?_
  refine g_iconst (v := (1 : Int32)) E dX9_isSet_9 (by decide) ?_
  refine g_isub E dX9_isSet_10 ?_
  refine g_i2l E dX9_isSet_11 ?_
  obtain ⟨q1, hq2, hf⟩ := gb hf
  refine g_callS (As := [.long x1.toInt64, .long (0 : Int64), .long (((((1 : Int32) <<< ((σ.2.1 0) &&& 31))) - (1 : Int32))).toInt64]) (rest := []) (n := 3) E (fX9_in_c k σ x1.toInt64 (0 : Int64) ((((((1 : Int32) <<< ((σ.2.1 0) &&& 31))) - (1 : Int32))).toInt64) q1 hq2) gX9_isSet_X9_in rfl rfl rfl (by decide +kernel) ⟨Nat.le_of_ble_eq_true rfl, Nat.le_of_ble_eq_true rfl⟩ rfl rfl (Nat.le_of_ble_eq_true rfl) dX9_isSet_12 ?_
  obtain ⟨hv3, hf⟩ := gd hf
  have hf := Option.some.inj hf
  subst hf
  exact g_zret E hv3 dX9_isSet_15
def rm_fX9_isPart : Room := { frames := 1, cells := 0, slots := 0, locals := 25 }
set_option maxHeartbeats 4000000 in
set_option maxRecDepth 100000 in
theorem fX9_isPart_c (k : gK) (σ : St) (x0 : Int32) (r : Int32 × St) (hf : fX9_isPart σ x0 = some r) : MC k yX9_isPart wsX9_isPart rm_fX9_isPart [.int x0] (mw k.2.2.2 σ) (some (.int r.1)) (mw k.2.2.2 r.2) := by
  refine MC_of (cc := cX9_isPart) (maxL := 1) (ret := (some .boolean)) (own := RX9) (lvs := [(0, .int x0)]) (by decide) rfl rfl (Nat.le_of_ble_eq_true rfl) rfl (fun X E => ?_)
  unfold fX9_isPart at hf
  refine g_iload_n E 0 dX9_isPart_0 rfl rfl ?_
  refine g_i2l E dX9_isPart_1 ?_
  refine g_lconst (v := (0 : Int64)) E dX9_isPart_2 (by decide) ?_
  refine g_lconst (v := (1 : Int64)) E dX9_isPart_3 (by decide) ?_
  obtain ⟨q1, hq2, hf⟩ := gb hf
  refine g_callS (As := [.long x0.toInt64, .long (0 : Int64), .long (1 : Int64)]) (rest := []) (n := 3) E (fX9_in_c k σ x0.toInt64 (0 : Int64) (1 : Int64) q1 hq2) gX9_isPart_X9_in rfl rfl rfl (by decide +kernel) ⟨Nat.le_of_ble_eq_true rfl, Nat.le_of_ble_eq_true rfl⟩ rfl rfl (Nat.le_of_ble_eq_true rfl) dX9_isPart_4 ?_
  obtain ⟨hv3, hf⟩ := gd hf
  have hf := Option.some.inj hf
  subst hf
  exact g_zret E hv3 dX9_isPart_7
