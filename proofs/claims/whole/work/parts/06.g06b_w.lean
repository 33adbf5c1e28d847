theorem hi_X9_judge_X9 : ∀ w ∈ wsX90, w ∈ wsX9_judge := by decide +kernel
theorem hk_X9_judge_63 : Cond.fieldLink RX9 63 "PaperMarksModel" "judges" "I" ∈ wsX9_judge := by decide +kernel
theorem hk_X9_judge_34 : Cond.fieldLink RX9 34 "PaperMarksModel" "marks" "[I" ∈ wsX9_judge := by decide +kernel
theorem hk_X9_judge_7 : Cond.fieldLink RX9 7 "PaperMarksModel" "leans" "[I" ∈ wsX9_judge := by decide +kernel
theorem hk_X9_judge_13 : Cond.fieldLink RX9 13 "PaperMarksModel" "slips" "[I" ∈ wsX9_judge := by decide +kernel
def rm_fX9_judge : Room := { frames := 1, cells := 0, slots := 0, locals := 25 }
set_option maxHeartbeats 4000000 in
set_option maxRecDepth 100000 in
theorem fX9_judge_w63 {k : gK} {X : gX} (E : gE k X cX9_judge RX9 wsX9_judge 4 (some .int) rm_fX9_judge) (rc63 : St → Int32 → Option (Int32 × St)) (hrc63 : ∀ (σ : St) (x3 : Int32) (r : Int32 × St), rc63 σ x3 = some r → G k X 4 (some (.int r.1)) (mw k.2.2.2 r.2) (mw k.2.2.2 σ) [(0, .ref (k.2.2.2.1 0)), (3, .int x3)] [] 63) (σ : St) (x3 : Int32) (r : Int32 × St) (hf : fX9_judge_b63 rc63 σ x3 = some r) : G k X 4 (some (.int r.1)) (mw k.2.2.2 r.2) (mw k.2.2.2 σ) [(0, .ref (k.2.2.2.1 0)), (3, .int x3)] [] 63 := by
  unfold fX9_judge_b63 at hf
  refine g_iload_n E 1 dX9_judge_63 rfl rfl ?_
  refine g_bipush (v := (6 : Int32)) E dX9_judge_64 (by decide) ?_
  refine g_icmp_ge (tgt := 90) E dX9_judge_66 (by decide) (fun c1 => ?_) (fun c1 => ?_)
  · have hf := gp hf c1
    refine g_aload_n E 0 dX9_judge_90 rfl rfl ?_
    refine g_dup E dX9_judge_91 rfl ?_
    refine g_get (C := RX9) (T := TX9) (N := 20) (ci := 9) E 0 3 (.int (σ.2.1 0)) hi_X9_judge_X9 (mwG0 _ _) rfl (by decide) hk_X9_judge_63 rfl dX9_judge_92 ?_
    refine g_iconst (v := (1 : Int32)) E dX9_judge_95 (by decide) ?_
    refine g_iadd E dX9_judge_96 ?_
    refine g_put (C := RX9) (T := TX9) (N := 20) (ci := 9) E 0 3 (mw k.2.2.2 (uI σ 0 (((σ.2.1 0) + (1 : Int32))))) hi_X9_judge_X9 tyX9 tyX9_ok nmX9 (mwG0 _ _) rfl (by decide) hk_X9_judge_63 rfl (by decide +kernel) (Nat.le_of_ble_eq_true rfl) (mwI0 _ _ _) dX9_judge_97 ?_
    refine g_aload_n E 0 dX9_judge_100 rfl rfl ?_
    refine g_get (C := RX9) (T := TX9) (N := 20) (ci := 9) E 0 3 (.int (((uI σ 0 (((σ.2.1 0) + (1 : Int32))))).2.1 0)) hi_X9_judge_X9 (mwG0 _ _) rfl (by decide) hk_X9_judge_63 rfl dX9_judge_101 ?_
    refine g_iconst (v := (1 : Int32)) E dX9_judge_104 (by decide) ?_
    refine g_isub E dX9_judge_105 ?_
    have hf := Option.some.inj hf
    subst hf
    exact g_iret E dX9_judge_106
  · have hf := gn hf c1
    refine g_aload_n E 0 dX9_judge_69 rfl rfl ?_
    refine g_get (C := RX9) (T := TX9) (N := 20) (ci := 9) E 0 10 (.ref (k.2.2.2.1 9)) hi_X9_judge_X9 (mwG0 _ _) rfl (by decide) hk_X9_judge_34 rfl dX9_judge_70 ?_
    refine g_aload_n E 0 dX9_judge_73 rfl rfl ?_
    refine g_get (C := RX9) (T := TX9) (N := 20) (ci := 9) E 0 3 (.int (σ.2.1 0)) hi_X9_judge_X9 (mwG0 _ _) rfl (by decide) hk_X9_judge_63 rfl dX9_judge_74 ?_
    refine g_iload_n E 1 dX9_judge_77 rfl rfl ?_
    obtain ⟨q2, hq3, hf⟩ := gb hf
    refine g_callS (As := [.int (σ.2.1 0), .int x3]) (rest := [.ref (k.2.2.2.1 9)]) (n := 2) E (fX9_at_c k σ (σ.2.1 0) x3 q2 hq3) gX9_judge_X9_at rfl rfl rfl (by decide +kernel) ⟨Nat.le_of_ble_eq_true rfl, Nat.le_of_ble_eq_true rfl⟩ rfl rfl (Nat.le_of_ble_eq_true rfl) dX9_judge_78 ?_
    refine g_bipush (v := (-6 : Int32)) E dX9_judge_81 (by decide) ?_
    obtain ⟨hi4, hf⟩ := gd hf
    refine g_iast E 9 (mw k.2.2.2 (uA q2.2 9 q2.1.toNatClampNeg (-6 : Int32))) (q2.2.1 9) (mwG9 _ _) hi4 (mwA9 _ _ _ _) dX9_judge_83 ?_
    refine g_iinc E 1 [(3, .int (x3 + (1 : Int32))), (0, .ref (k.2.2.2.1 0))] (x3 + (1 : Int32)) dX9_judge_84 rfl (by rfl) (by decide) rfl ?_
    refine g_goto (tgt := 63) E dX9_judge_87 (by decide) ?_
    exact g_sub [1, 0] rfl (hrc63 (uA q2.2 9 q2.1.toNatClampNeg (-6 : Int32)) (x3 + (1 : Int32)) r hf)
theorem fX9_judge_v63 {k : gK} {X : gX} (E : gE k X cX9_judge RX9 wsX9_judge 4 (some .int) rm_fX9_judge) : ∀ (n : Nat) (σ : St) (x3 : Int32) (r : Int32 × St), fX9_judge_l63 n σ x3 = some r → G k X 4 (some (.int r.1)) (mw k.2.2.2 r.2) (mw k.2.2.2 σ) [(0, .ref (k.2.2.2.1 0)), (3, .int x3)] [] 63 := by
  intro n
  induction n with
  | zero => intro σ x3 r hf; cases hf
  | succ n ih => intro σ x3 r hf; exact fX9_judge_w63 E (fX9_judge_l63 n) ih σ x3 r hf
set_option maxHeartbeats 4000000 in
set_option maxRecDepth 100000 in
theorem fX9_judge_c (k : gK) (σ : St) (x1 : Int32) (x2 : Int32) (r : Int32 × St) (hf : fX9_judge σ x1 x2 = some r) : MC k yX9_judge wsX9_judge rm_fX9_judge [.ref (k.2.2.2.1 0), .int x1, .int x2] (mw k.2.2.2 σ) (some (.int r.1)) (mw k.2.2.2 r.2) := by
  refine MC_of (cc := cX9_judge) (maxL := 4) (ret := (some .int)) (own := RX9) (lvs := [(0, .ref (k.2.2.2.1 0)), (1, .int x1), (2, .int x2)]) (by decide) rfl rfl (Nat.le_of_ble_eq_true rfl) rfl (fun X E => ?_)
  unfold fX9_judge at hf
  refine g_iload_n E 1 dX9_judge_0 rfl rfl ?_
  refine g_i2l E dX9_judge_1 ?_
  refine g_ldc2 (v := (-2 : Int64)) E (by decide +kernel) dX9_judge_2 ?_
  refine g_ldc2 (v := (2 : Int64)) E (by decide +kernel) dX9_judge_5 ?_
  obtain ⟨q1, hq2, hf⟩ := gb hf
  refine g_callS (As := [.long x1.toInt64, .long (-2 : Int64), .long (2 : Int64)]) (rest := []) (n := 3) E (fX9_in_c k σ x1.toInt64 (-2 : Int64) (2 : Int64) q1 hq2) gX9_judge_X9_in rfl rfl rfl (by decide +kernel) ⟨Nat.le_of_ble_eq_true rfl, Nat.le_of_ble_eq_true rfl⟩ rfl rfl (Nat.le_of_ble_eq_true rfl) dX9_judge_8 ?_
  refine g_if_eq (tgt := 26) E dX9_judge_11 (by decide) (fun c3 => ?_) (fun c3 => ?_)
  · have hf := gp hf c3
    refine g_bipush (v := (-2 : Int32)) E dX9_judge_26 (by decide) ?_
    have hf := Option.some.inj hf
    subst hf
    exact g_iret E dX9_judge_28
  · have hf := gn hf c3
    refine g_iload_n E 2 dX9_judge_14 rfl rfl ?_
    refine g_i2l E dX9_judge_15 ?_
    refine g_lconst (v := (0 : Int64)) E dX9_judge_16 (by decide) ?_
    refine g_ldc2 (v := (2 : Int64)) E (by decide +kernel) dX9_judge_17 ?_
    obtain ⟨q4, hq5, hf⟩ := gb hf
    refine g_callS (As := [.long x2.toInt64, .long (0 : Int64), .long (2 : Int64)]) (rest := []) (n := 3) E (fX9_in_c k q1.2 x2.toInt64 (0 : Int64) (2 : Int64) q4 hq5) gX9_judge_X9_in rfl rfl rfl (by decide +kernel) ⟨Nat.le_of_ble_eq_true rfl, Nat.le_of_ble_eq_true rfl⟩ rfl rfl (Nat.le_of_ble_eq_true rfl) dX9_judge_20 ?_
    refine g_if_ne (tgt := 29) E dX9_judge_23 (by decide) (fun c6 => ?_) (fun c6 => ?_)
    · have hf := gn hf c6
      refine g_aload_n E 0 dX9_judge_29 rfl rfl ?_
      refine g_get (C := RX9) (T := TX9) (N := 20) (ci := 9) E 0 3 (.int (q4.2.2.1 0)) hi_X9_judge_X9 (mwG0 _ _) rfl (by decide) hk_X9_judge_63 rfl dX9_judge_30 ?_
      refine g_bipush (v := (6 : Int32)) E dX9_judge_33 (by decide) ?_
      refine g_icmp_ne (tgt := 41) E dX9_judge_35 (by decide) (fun c7 => ?_) (fun c7 => ?_)
      · have hf := gn hf c7
        refine g_aload_n E 0 dX9_judge_41 rfl rfl ?_
        refine g_get (C := RX9) (T := TX9) (N := 20) (ci := 9) E 0 0 (.ref (k.2.2.2.1 1)) hi_X9_judge_X9 (mwG0 _ _) rfl (by decide) hk_X9_judge_7 rfl dX9_judge_42 ?_
        refine g_aload_n E 0 dX9_judge_45 rfl rfl ?_
        refine g_get (C := RX9) (T := TX9) (N := 20) (ci := 9) E 0 3 (.int (q4.2.2.1 0)) hi_X9_judge_X9 (mwG0 _ _) rfl (by decide) hk_X9_judge_63 rfl dX9_judge_46 ?_
        refine g_iload_n E 1 dX9_judge_49 rfl rfl ?_
        obtain ⟨hi8, hf⟩ := gd hf
        refine g_iast E 1 (mw k.2.2.2 (uA q4.2 1 (q4.2.2.1 0).toNatClampNeg x1)) (q4.2.1 1) (mwG1 _ _) hi8 (mwA1 _ _ _ _) dX9_judge_50 ?_
        refine g_aload_n E 0 dX9_judge_51 rfl rfl ?_
        refine g_get (C := RX9) (T := TX9) (N := 20) (ci := 9) E 0 1 (.ref (k.2.2.2.1 2)) hi_X9_judge_X9 (mwG0 _ _) rfl (by decide) hk_X9_judge_13 rfl dX9_judge_52 ?_
        refine g_aload_n E 0 dX9_judge_55 rfl rfl ?_
        refine g_get (C := RX9) (T := TX9) (N := 20) (ci := 9) E 0 3 (.int (((uA q4.2 1 (q4.2.2.1 0).toNatClampNeg x1)).2.1 0)) hi_X9_judge_X9 (mwG0 _ _) rfl (by decide) hk_X9_judge_63 rfl dX9_judge_56 ?_
        refine g_iload_n E 2 dX9_judge_59 rfl rfl ?_
        obtain ⟨hi9, hf⟩ := gd hf
        refine g_iast E 2 (mw k.2.2.2 (uA ((uA q4.2 1 (q4.2.2.1 0).toNatClampNeg x1)) 2 ((((uA q4.2 1 (q4.2.2.1 0).toNatClampNeg x1)).2.1 0)).toNatClampNeg x2)) (((uA q4.2 1 (q4.2.2.1 0).toNatClampNeg x1)).1 2) (mwG2 _ _) hi9 (mwA2 _ _ _ _) dX9_judge_60 ?_
        refine g_iconst (v := (0 : Int32)) E dX9_judge_61 (by decide) ?_
        refine g_istore_n E [(3, .int (0 : Int32)), (0, .ref (k.2.2.2.1 0)), (1, .int x1), (2, .int x2)] dX9_judge_62 rfl (by decide) rfl ?_
        exact g_sub [1, 0] rfl (fX9_judge_v63 E gF (uA ((uA q4.2 1 (q4.2.2.1 0).toNatClampNeg x1)) 2 ((((uA q4.2 1 (q4.2.2.1 0).toNatClampNeg x1)).2.1 0)).toNatClampNeg x2) (0 : Int32) r hf)
      · have hf := gp hf c7
        refine g_bipush (v := (-4 : Int32)) E dX9_judge_38 (by decide) ?_
        have hf := Option.some.inj hf
        subst hf
        exact g_iret E dX9_judge_40
    · have hf := gp hf c6
      refine g_bipush (v := (-2 : Int32)) E dX9_judge_26 (by decide) ?_
      have hf := Option.some.inj hf
      subst hf
      exact g_iret E dX9_judge_28
theorem hi_X9_isJudge_X9 : ∀ w ∈ wsX90, w ∈ wsX9_isJudge := by decide +kernel
theorem hk_X9_isJudge_63 : Cond.fieldLink RX9 63 "PaperMarksModel" "judges" "I" ∈ wsX9_isJudge := by decide +kernel
def rm_fX9_isJudge : Room := { frames := 1, cells := 0, slots := 0, locals := 25 }
set_option maxHeartbeats 4000000 in
set_option maxRecDepth 100000 in
theorem fX9_isJudge_c (k : gK) (σ : St) (x1 : Int32) (r : Int32 × St) (hf : fX9_isJudge σ x1 = some r) : MC k yX9_isJudge wsX9_isJudge rm_fX9_isJudge [.ref (k.2.2.2.1 0), .int x1] (mw k.2.2.2 σ) (some (.int r.1)) (mw k.2.2.2 r.2) := by
  refine MC_of (cc := cX9_isJudge) (maxL := 2) (ret := (some .boolean)) (own := RX9) (lvs := [(0, .ref (k.2.2.2.1 0)), (1, .int x1)]) (by decide) rfl rfl (Nat.le_of_ble_eq_true rfl) rfl (fun X E => ?_)
  unfold fX9_isJudge at hf
  refine g_iload_n E 1 dX9_isJudge_0 rfl rfl ?_
  refine g_i2l E dX9_isJudge_1 ?_
  refine g_lconst (v := (0 : Int64)) E dX9_isJudge_2 (by decide) ?_
  refine g_aload_n E 0 dX9_isJudge_3 rfl rfl ?_
  refine g_get (C := RX9) (T := TX9) (N := 20) (ci := 9) E 0 3 (.int (σ.2.1 0)) hi_X9_isJudge_X9 (mwG0 _ _) rfl (by decide) hk_X9_isJudge_63 rfl dX9_isJudge_4 ?_
  refine g_iconst (v := (1 : Int32)) E dX9_isJudge_7 (by decide) ?_
  refine g_isub E dX9_isJudge_8 ?_
  refine g_i2l E dX9_isJudge_9 ?_
  obtain ⟨q1, hq2, hf⟩ := gb hf
  refine g_callS (As := [.long x1.toInt64, .long (0 : Int64), .long (((σ.2.1 0) - (1 : Int32))).toInt64]) (rest := []) (n := 3) E (fX9_in_c k σ x1.toInt64 (0 : Int64) ((((σ.2.1 0) - (1 : Int32))).toInt64) q1 hq2) gX9_isJudge_X9_in rfl rfl rfl (by decide +kernel) ⟨Nat.le_of_ble_eq_true rfl, Nat.le_of_ble_eq_true rfl⟩ rfl rfl (Nat.le_of_ble_eq_true rfl) dX9_isJudge_10 ?_
  obtain ⟨hv3, hf⟩ := gd hf
  have hf := Option.some.inj hf
  subst hf
  exact g_zret E hv3 dX9_isJudge_13
theorem hi_X9_paper_X9 : ∀ w ∈ wsX90, w ∈ wsX9_paper := by decide +kernel
theorem hk_X9_paper_67 : Cond.fieldLink RX9 67 "PaperMarksModel" "papers" "I" ∈ wsX9_paper := by decide +kernel
theorem hk_X9_paper_22 : Cond.fieldLink RX9 22 "PaperMarksModel" "worths" "[I" ∈ wsX9_paper := by decide +kernel
theorem hk_X9_paper_25 : Cond.fieldLink RX9 25 "PaperMarksModel" "writers" "[I" ∈ wsX9_paper := by decide +kernel
theorem hk_X9_paper_31 : Cond.fieldLink RX9 31 "PaperMarksModel" "laters" "[I" ∈ wsX9_paper := by decide +kernel
def rm_fX9_paper : Room := { frames := 2, cells := 0, slots := 0, locals := 46 }
set_option maxHeartbeats 4000000 in
set_option maxRecDepth 100000 in
theorem fX9_paper_w16 {k : gK} {X : gX} (E : gE k X cX9_paper RX9 wsX9_paper 3 (some .int) rm_fX9_paper) (σ : St) (x1 : Int32) (x2 : Int32) (r : Int32 × St) (hf : fX9_paper_b16 σ x1 x2 = some r) : G k X 3 (some (.int r.1)) (mw k.2.2.2 r.2) (mw k.2.2.2 σ) [(0, .ref (k.2.2.2.1 0)), (1, .int x1), (2, .int x2)] [] 16 := by
  unfold fX9_paper_b16 at hf
  refine g_iload_n E 1 dX9_paper_16 rfl rfl ?_
  refine g_i2l E dX9_paper_17 ?_
  refine g_lconst (v := (0 : Int64)) E dX9_paper_18 (by decide) ?_
  refine g_ldc2 (v := (5 : Int64)) E (by decide +kernel) dX9_paper_19 ?_
  obtain ⟨q1, hq2, hf⟩ := gb hf
  refine g_callS (As := [.long x1.toInt64, .long (0 : Int64), .long (5 : Int64)]) (rest := []) (n := 3) E (fX9_in_c k σ x1.toInt64 (0 : Int64) (5 : Int64) q1 hq2) gX9_paper_X9_in rfl rfl rfl (by decide +kernel) ⟨Nat.le_of_ble_eq_true rfl, Nat.le_of_ble_eq_true rfl⟩ rfl rfl (Nat.le_of_ble_eq_true rfl) dX9_paper_22 ?_
  refine g_if_ne (tgt := 31) E dX9_paper_25 (by decide) (fun c3 => ?_) (fun c3 => ?_)
  · have hf := gn hf c3
    refine g_aload_n E 0 dX9_paper_31 rfl rfl ?_
    refine g_get (C := RX9) (T := TX9) (N := 20) (ci := 9) E 0 9 (.int (q1.2.2.1 1)) hi_X9_paper_X9 (mwG0 _ _) rfl (by decide) hk_X9_paper_67 rfl dX9_paper_32 ?_
    refine g_bipush (v := (6 : Int32)) E dX9_paper_35 (by decide) ?_
    refine g_icmp_ne (tgt := 43) E dX9_paper_37 (by decide) (fun c4 => ?_) (fun c4 => ?_)
    · have hf := gn hf c4
      refine g_aload_n E 0 dX9_paper_43 rfl rfl ?_
      refine g_get (C := RX9) (T := TX9) (N := 20) (ci := 9) E 0 5 (.ref (k.2.2.2.1 5)) hi_X9_paper_X9 (mwG0 _ _) rfl (by decide) hk_X9_paper_22 rfl dX9_paper_44 ?_
      refine g_aload_n E 0 dX9_paper_47 rfl rfl ?_
      refine g_get (C := RX9) (T := TX9) (N := 20) (ci := 9) E 0 9 (.int (q1.2.2.1 1)) hi_X9_paper_X9 (mwG0 _ _) rfl (by decide) hk_X9_paper_67 rfl dX9_paper_48 ?_
      refine g_iload_n E 1 dX9_paper_51 rfl rfl ?_
      obtain ⟨hi5, hf⟩ := gd hf
      refine g_iast E 5 (mw k.2.2.2 (uA q1.2 5 (q1.2.2.1 1).toNatClampNeg x1)) (q1.2.1 5) (mwG5 _ _) hi5 (mwA5 _ _ _ _) dX9_paper_52 ?_
      refine g_aload_n E 0 dX9_paper_53 rfl rfl ?_
      refine g_get (C := RX9) (T := TX9) (N := 20) (ci := 9) E 0 6 (.ref (k.2.2.2.1 6)) hi_X9_paper_X9 (mwG0 _ _) rfl (by decide) hk_X9_paper_25 rfl dX9_paper_54 ?_
      refine g_aload_n E 0 dX9_paper_57 rfl rfl ?_
      refine g_get (C := RX9) (T := TX9) (N := 20) (ci := 9) E 0 9 (.int (((uA q1.2 5 (q1.2.2.1 1).toNatClampNeg x1)).2.1 1)) hi_X9_paper_X9 (mwG0 _ _) rfl (by decide) hk_X9_paper_67 rfl dX9_paper_58 ?_
      refine g_iload_n E 2 dX9_paper_61 rfl rfl ?_
      obtain ⟨hi6, hf⟩ := gd hf
      refine g_iast E 6 (mw k.2.2.2 (uA ((uA q1.2 5 (q1.2.2.1 1).toNatClampNeg x1)) 6 ((((uA q1.2 5 (q1.2.2.1 1).toNatClampNeg x1)).2.1 1)).toNatClampNeg x2)) (((uA q1.2 5 (q1.2.2.1 1).toNatClampNeg x1)).1 6) (mwG6 _ _) hi6 (mwA6 _ _ _ _) dX9_paper_62 ?_
      refine g_aload_n E 0 dX9_paper_63 rfl rfl ?_
      refine g_get (C := RX9) (T := TX9) (N := 20) (ci := 9) E 0 8 (.ref (k.2.2.2.1 8)) hi_X9_paper_X9 (mwG0 _ _) rfl (by decide) hk_X9_paper_31 rfl dX9_paper_64 ?_
      refine g_aload_n E 0 dX9_paper_67 rfl rfl ?_
      refine g_get (C := RX9) (T := TX9) (N := 20) (ci := 9) E 0 9 (.int (((uA ((uA q1.2 5 (q1.2.2.1 1).toNatClampNeg x1)) 6 ((((uA q1.2 5 (q1.2.2.1 1).toNatClampNeg x1)).2.1 1)).toNatClampNeg x2)).2.1 1)) hi_X9_paper_X9 (mwG0 _ _) rfl (by decide) hk_X9_paper_67 rfl dX9_paper_68 ?_
      refine g_bipush (v := (-6 : Int32)) E dX9_paper_71 (by decide) ?_
      obtain ⟨hi7, hf⟩ := gd hf
      refine g_iast E 8 (mw k.2.2.2 (uA ((uA ((uA q1.2 5 (q1.2.2.1 1).toNatClampNeg x1)) 6 ((((uA q1.2 5 (q1.2.2.1 1).toNatClampNeg x1)).2.1 1)).toNatClampNeg x2)) 8 ((((uA ((uA q1.2 5 (q1.2.2.1 1).toNatClampNeg x1)) 6 ((((uA q1.2 5 (q1.2.2.1 1).toNatClampNeg x1)).2.1 1)).toNatClampNeg x2)).2.1 1)).toNatClampNeg (-6 : Int32))) (((uA ((uA q1.2 5 (q1.2.2.1 1).toNatClampNeg x1)) 6 ((((uA q1.2 5 (q1.2.2.1 1).toNatClampNeg x1)).2.1 1)).toNatClampNeg x2)).1 8) (mwG8 _ _) hi7 (mwA8 _ _ _ _) dX9_paper_73 ?_
      refine g_aload_n E 0 dX9_paper_74 rfl rfl ?_
      refine g_dup E dX9_paper_75 rfl ?_
      refine g_get (C := RX9) (T := TX9) (N := 20) (ci := 9) E 0 9 (.int (((uA ((uA ((uA q1.2 5 (q1.2.2.1 1).toNatClampNeg x1)) 6 ((((uA q1.2 5 (q1.2.2.1 1).toNatClampNeg x1)).2.1 1)).toNatClampNeg x2)) 8 ((((uA ((uA q1.2 5 (q1.2.2.1 1).toNatClampNeg x1)) 6 ((((uA q1.2 5 (q1.2.2.1 1).toNatClampNeg x1)).2.1 1)).toNatClampNeg x2)).2.1 1)).toNatClampNeg (-6 : Int32))).2.1 1)) hi_X9_paper_X9 (mwG0 _ _) rfl (by decide) hk_X9_paper_67 rfl dX9_paper_76 ?_
      refine g_iconst (v := (1 : Int32)) E dX9_paper_79 (by decide) ?_
      refine g_iadd E dX9_paper_80 ?_
      refine g_put (C := RX9) (T := TX9) (N := 20) (ci := 9) E 0 9 (mw k.2.2.2 (uI ((uA ((uA ((uA q1.2 5 (q1.2.2.1 1).toNatClampNeg x1)) 6 ((((uA q1.2 5 (q1.2.2.1 1).toNatClampNeg x1)).2.1 1)).toNatClampNeg x2)) 8 ((((uA ((uA q1.2 5 (q1.2.2.1 1).toNatClampNeg x1)) 6 ((((uA q1.2 5 (q1.2.2.1 1).toNatClampNeg x1)).2.1 1)).toNatClampNeg x2)).2.1 1)).toNatClampNeg (-6 : Int32))) 1 ((((((uA ((uA ((uA q1.2 5 (q1.2.2.1 1).toNatClampNeg x1)) 6 ((((uA q1.2 5 (q1.2.2.1 1).toNatClampNeg x1)).2.1 1)).toNatClampNeg x2)) 8 ((((uA ((uA q1.2 5 (q1.2.2.1 1).toNatClampNeg x1)) 6 ((((uA q1.2 5 (q1.2.2.1 1).toNatClampNeg x1)).2.1 1)).toNatClampNeg x2)).2.1 1)).toNatClampNeg (-6 : Int32))).2.1 1)) + (1 : Int32))))) hi_X9_paper_X9 tyX9 tyX9_ok nmX9 (mwG0 _ _) rfl (by decide) hk_X9_paper_67 rfl (by decide +kernel) (Nat.le_of_ble_eq_true rfl) (mwI1 _ _ _) dX9_paper_81 ?_
      refine g_aload_n E 0 dX9_paper_84 rfl rfl ?_
      refine g_get (C := RX9) (T := TX9) (N := 20) (ci := 9) E 0 9 (.int (((uI ((uA ((uA ((uA q1.2 5 (q1.2.2.1 1).toNatClampNeg x1)) 6 ((((uA q1.2 5 (q1.2.2.1 1).toNatClampNeg x1)).2.1 1)).toNatClampNeg x2)) 8 ((((uA ((uA q1.2 5 (q1.2.2.1 1).toNatClampNeg x1)) 6 ((((uA q1.2 5 (q1.2.2.1 1).toNatClampNeg x1)).2.1 1)).toNatClampNeg x2)).2.1 1)).toNatClampNeg (-6 : Int32))) 1 ((((((uA ((uA ((uA q1.2 5 (q1.2.2.1 1).toNatClampNeg x1)) 6 ((((uA q1.2 5 (q1.2.2.1 1).toNatClampNeg x1)).2.1 1)).toNatClampNeg x2)) 8 ((((uA ((uA q1.2 5 (q1.2.2.1 1).toNatClampNeg x1)) 6 ((((uA q1.2 5 (q1.2.2.1 1).toNatClampNeg x1)).2.1 1)).toNatClampNeg x2)).2.1 1)).toNatClampNeg (-6 : Int32))).2.1 1)) + (1 : Int32))))).2.1 1)) hi_X9_paper_X9 (mwG0 _ _) rfl (by decide) hk_X9_paper_67 rfl dX9_paper_85 ?_
      refine g_iconst (v := (1 : Int32)) E dX9_paper_88 (by decide) ?_
      refine g_isub E dX9_paper_89 ?_
      have hf := Option.some.inj hf
      subst hf
      exact g_iret E dX9_paper_90
    · have hf := gp hf c4
      refine g_bipush (v := (-4 : Int32)) E dX9_paper_40 (by decide) ?_
      have hf := Option.some.inj hf
      subst hf
      exact g_iret E dX9_paper_42
  · have hf := gp hf c3
    refine g_bipush (v := (-2 : Int32)) E dX9_paper_28 (by decide) ?_
    have hf := Option.some.inj hf
    subst hf
    exact g_iret E dX9_paper_30
set_option maxHeartbeats 4000000 in
set_option maxRecDepth 100000 in
theorem fX9_paper_c (k : gK) (σ : St) (x1 : Int32) (x2 : Int32) (r : Int32 × St) (hf : fX9_paper σ x1 x2 = some r) : MC k yX9_paper wsX9_paper rm_fX9_paper [.ref (k.2.2.2.1 0), .int x1, .int x2] (mw k.2.2.2 σ) (some (.int r.1)) (mw k.2.2.2 r.2) := by
  refine MC_of (cc := cX9_paper) (maxL := 3) (ret := (some .int)) (own := RX9) (lvs := [(0, .ref (k.2.2.2.1 0)), (1, .int x1), (2, .int x2)]) (by decide) rfl rfl (Nat.le_of_ble_eq_true rfl) rfl (fun X E => ?_)
  unfold fX9_paper at hf
  refine g_iload_n E 2 dX9_paper_0 rfl rfl ?_
  refine g_bipush (v := (-6 : Int32)) E dX9_paper_1 (by decide) ?_
  refine g_icmp_eq (tgt := 16) E dX9_paper_3 (by decide) (fun c1 => ?_) (fun c1 => ?_)
  · have hf := gp hf c1
    exact fX9_paper_w16 E σ x1 x2 r hf
  · have hf := gn hf c1
    refine g_aload_n E 0 dX9_paper_6 rfl rfl ?_
    refine g_iload_n E 2 dX9_paper_7 rfl rfl ?_
    obtain ⟨q2, hq3, hf⟩ := gb hf
    refine g_callV (C := RX9) (T := TX9) (N := 20) (ci := 9) (As := [.int x2]) (rest := []) (n := 1) E 0 (fX9_isJudge_c k σ x2 q2 hq3) gX9_paper_X9_isJudge rfl rfl rfl (by decide +kernel) ⟨Nat.le_of_ble_eq_true rfl, Nat.le_of_ble_eq_true rfl⟩ rfl rfl (Nat.le_of_ble_eq_true rfl) rfl (mwG0 _ _) dX9_paper_8 ?_
    refine g_if_ne (tgt := 16) E dX9_paper_11 (by decide) (fun c4 => ?_) (fun c4 => ?_)
    · have hf := gn hf c4
      exact fX9_paper_w16 E q2.2 x1 x2 r hf
    · have hf := gp hf c4
      refine g_iconst (v := (-1 : Int32)) E dX9_paper_14 (by decide) ?_
      have hf := Option.some.inj hf
      subst hf
      exact g_iret E dX9_paper_15
