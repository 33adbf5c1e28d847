def rm_fX8_within : Room := { frames := 0, cells := 0, slots := 0, locals := 0 }
set_option maxHeartbeats 4000000 in
set_option maxRecDepth 100000 in
theorem fX8_within_c (k : gK) (σ : St) (x0 : Int32) (x1 : Int32) (x2 : Int32) (r : Int32 × St) (hf : fX8_within σ x0 x1 x2 = some r) : MC k yX8_within wsX8_within rm_fX8_within [.int x0, .int x1, .int x2] (cw k.2.2.2 σ) (some (.int r.1)) (cw k.2.2.2 r.2) := by
  refine MC_of (cc := cX8_within) (maxL := 3) (ret := (some .boolean)) (own := RX8) (lvs := [(0, .int x0), (1, .int x1), (2, .int x2)]) (by decide) rfl rfl (Nat.le_of_ble_eq_true rfl) rfl (fun X E => ?_)
  unfold fX8_within at hf
  refine g_iload_n E 0 dX8_within_0 rfl rfl ?_
  refine g_iload_n E 1 dX8_within_1 rfl rfl ?_
  refine g_icmp_lt (tgt := 14) E dX8_within_2 (by decide) (fun c1 => ?_) (fun c1 => ?_)
  · have hf := gp hf c1
    refine g_iconst (v := (0 : Int32)) E dX8_within_14 (by decide) ?_
    have hf := Option.some.inj hf
    subst hf
    exact g_zret E (Or.inl rfl) dX8_within_15
  · have hf := gn hf c1
    refine g_iload_n E 0 dX8_within_5 rfl rfl ?_
    refine g_iload_n E 2 dX8_within_6 rfl rfl ?_
    refine g_icmp_gt (tgt := 14) E dX8_within_7 (by decide) (fun c2 => ?_) (fun c2 => ?_)
    · have hf := gp hf c2
      refine g_iconst (v := (0 : Int32)) E dX8_within_14 (by decide) ?_
      have hf := Option.some.inj hf
      subst hf
      exact g_zret E (Or.inl rfl) dX8_within_15
    · have hf := gn hf c2
      refine g_iconst (v := (1 : Int32)) E dX8_within_10 (by decide) ?_
      refine g_goto (tgt := 15) E dX8_within_11 (by decide) ?_
      have hf := Option.some.inj hf
      subst hf
      exact g_zret E (Or.inr rfl) dX8_within_15
theorem hi_X0_add_X0 : ∀ w ∈ wsX00, w ∈ wsX0_add := by decide +kernel
theorem hk_X0_add_24 : Cond.fieldLink RX0 24 "PaperMarks$Judges" "count" "I" ∈ wsX0_add := by decide +kernel
theorem hk_X0_add_9 : Cond.fieldLink RX0 9 "PaperMarks$Judges" "leans" "[I" ∈ wsX0_add := by decide +kernel
theorem hk_X0_add_15 : Cond.fieldLink RX0 15 "PaperMarks$Judges" "slips" "[I" ∈ wsX0_add := by decide +kernel
def rm_fX0_add : Room := { frames := 0, cells := 0, slots := 0, locals := 0 }
set_option maxHeartbeats 4000000 in
set_option maxRecDepth 100000 in
theorem fX0_add_c (k : gK) (σ : St) (x1 : Int32) (x2 : Int32) (r : Int32 × St) (hf : fX0_add σ x1 x2 = some r) : MC k yX0_add wsX0_add rm_fX0_add [.ref (k.2.2.2.1 1), .int x1, .int x2] (cw k.2.2.2 σ) (some (.int r.1)) (cw k.2.2.2 r.2) := by
  refine MC_of (cc := cX0_add) (maxL := 3) (ret := (some .int)) (own := RX0) (lvs := [(0, .ref (k.2.2.2.1 1)), (1, .int x1), (2, .int x2)]) (by decide) rfl rfl (Nat.le_of_ble_eq_true rfl) rfl (fun X E => ?_)
  unfold fX0_add at hf
  refine g_aload_n E 0 dX0_add_0 rfl rfl ?_
  refine g_get (C := RX0) (T := TX0) (N := 5) (ci := 0) E 1 4 (.int (σ.2.1 0)) hi_X0_add_X0 (cwG1 _ _) rfl (by decide) hk_X0_add_24 rfl dX0_add_1 ?_
  refine g_bipush (v := (6 : Int32)) E dX0_add_4 (by decide) ?_
  refine g_icmp_lt (tgt := 12) E dX0_add_6 (by decide) (fun c1 => ?_) (fun c1 => ?_)
  · have hf := gp hf c1
    refine g_aload_n E 0 dX0_add_12 rfl rfl ?_
    refine g_get (C := RX0) (T := TX0) (N := 5) (ci := 0) E 1 0 (.ref (k.2.2.2.1 10)) hi_X0_add_X0 (cwG1 _ _) rfl (by decide) hk_X0_add_9 rfl dX0_add_13 ?_
    refine g_aload_n E 0 dX0_add_16 rfl rfl ?_
    refine g_get (C := RX0) (T := TX0) (N := 5) (ci := 0) E 1 4 (.int (σ.2.1 0)) hi_X0_add_X0 (cwG1 _ _) rfl (by decide) hk_X0_add_24 rfl dX0_add_17 ?_
    refine g_iload_n E 1 dX0_add_20 rfl rfl ?_
    obtain ⟨hi2, hf⟩ := gd hf
    refine g_iast E 10 (cw k.2.2.2 (uA σ 10 (σ.2.1 0).toNatClampNeg x1)) (σ.1 10) (cwG10 _ _) hi2 (cwA10 _ _ _ _) dX0_add_21 ?_
    refine g_aload_n E 0 dX0_add_22 rfl rfl ?_
    refine g_get (C := RX0) (T := TX0) (N := 5) (ci := 0) E 1 1 (.ref (k.2.2.2.1 11)) hi_X0_add_X0 (cwG1 _ _) rfl (by decide) hk_X0_add_15 rfl dX0_add_23 ?_
    refine g_aload_n E 0 dX0_add_26 rfl rfl ?_
    refine g_get (C := RX0) (T := TX0) (N := 5) (ci := 0) E 1 4 (.int (((uA σ 10 (σ.2.1 0).toNatClampNeg x1)).2.1 0)) hi_X0_add_X0 (cwG1 _ _) rfl (by decide) hk_X0_add_24 rfl dX0_add_27 ?_
    refine g_iload_n E 2 dX0_add_30 rfl rfl ?_
    obtain ⟨hi3, hf⟩ := gd hf
    refine g_iast E 11 (cw k.2.2.2 (uA ((uA σ 10 (σ.2.1 0).toNatClampNeg x1)) 11 ((((uA σ 10 (σ.2.1 0).toNatClampNeg x1)).2.1 0)).toNatClampNeg x2)) (((uA σ 10 (σ.2.1 0).toNatClampNeg x1)).1 11) (cwG11 _ _) hi3 (cwA11 _ _ _ _) dX0_add_31 ?_
    refine g_aload_n E 0 dX0_add_32 rfl rfl ?_
    refine g_dup E dX0_add_33 rfl ?_
    refine g_get (C := RX0) (T := TX0) (N := 5) (ci := 0) E 1 4 (.int (((uA ((uA σ 10 (σ.2.1 0).toNatClampNeg x1)) 11 ((((uA σ 10 (σ.2.1 0).toNatClampNeg x1)).2.1 0)).toNatClampNeg x2)).2.1 0)) hi_X0_add_X0 (cwG1 _ _) rfl (by decide) hk_X0_add_24 rfl dX0_add_34 ?_
    refine g_dup_x1 E dX0_add_37 rfl rfl ?_
    refine g_iconst (v := (1 : Int32)) E dX0_add_38 (by decide) ?_
    refine g_iadd E dX0_add_39 ?_
    refine g_put (C := RX0) (T := TX0) (N := 5) (ci := 0) E 1 4 (cw k.2.2.2 (uI ((uA ((uA σ 10 (σ.2.1 0).toNatClampNeg x1)) 11 ((((uA σ 10 (σ.2.1 0).toNatClampNeg x1)).2.1 0)).toNatClampNeg x2)) 0 ((((((uA ((uA σ 10 (σ.2.1 0).toNatClampNeg x1)) 11 ((((uA σ 10 (σ.2.1 0).toNatClampNeg x1)).2.1 0)).toNatClampNeg x2)).2.1 0)) + (1 : Int32))))) hi_X0_add_X0 tyX0 tyX0_ok nmX0 (cwG1 _ _) rfl (by decide) hk_X0_add_24 rfl (by decide +kernel) (Nat.le_of_ble_eq_true rfl) (cwI0 _ _ _) dX0_add_40 ?_
    have hf := Option.some.inj hf
    subst hf
    exact g_iret E dX0_add_43
  · have hf := gn hf c1
    refine g_bipush (v := (-4 : Int32)) E dX0_add_9 (by decide) ?_
    have hf := Option.some.inj hf
    subst hf
    exact g_iret E dX0_add_11
theorem hi_X8_judge_X8 : ∀ w ∈ wsX80, w ∈ wsX8_judge := by decide +kernel
theorem hk_X8_judge_10 : Cond.fieldLink RX8 10 "PaperMarks" "judges" "LPaperMarks$Judges;" ∈ wsX8_judge := by decide +kernel
def rm_fX8_judge : Room := { frames := 1, cells := 0, slots := 0, locals := 22 }
set_option maxHeartbeats 4000000 in
set_option maxRecDepth 100000 in
theorem fX8_judge_c (k : gK) (σ : St) (x1 : Int32) (x2 : Int32) (r : Int32 × St) (hf : fX8_judge σ x1 x2 = some r) : MC k yX8_judge wsX8_judge rm_fX8_judge [.ref (k.2.2.2.1 0), .int x1, .int x2] (cw k.2.2.2 σ) (some (.int r.1)) (cw k.2.2.2 r.2) := by
  refine MC_of (cc := cX8_judge) (maxL := 3) (ret := (some .int)) (own := RX8) (lvs := [(0, .ref (k.2.2.2.1 0)), (1, .int x1), (2, .int x2)]) (by decide) rfl rfl (Nat.le_of_ble_eq_true rfl) rfl (fun X E => ?_)
  unfold fX8_judge at hf
  refine g_iload_n E 1 dX8_judge_0 rfl rfl ?_
  refine g_bipush (v := (-2 : Int32)) E dX8_judge_1 (by decide) ?_
  refine g_iconst (v := (2 : Int32)) E dX8_judge_3 (by decide) ?_
  obtain ⟨q1, hq2, hf⟩ := gb hf
  refine g_callS (As := [.int x1, .int (-2 : Int32), .int (2 : Int32)]) (rest := []) (n := 3) E (fX8_within_c k σ x1 (-2 : Int32) (2 : Int32) q1 hq2) gX8_judge_X8_within rfl rfl rfl (by decide +kernel) ⟨Nat.le_of_ble_eq_true rfl, Nat.le_of_ble_eq_true rfl⟩ rfl rfl (Nat.le_of_ble_eq_true rfl) dX8_judge_4 ?_
  refine g_if_eq (tgt := 19) E dX8_judge_7 (by decide) (fun c3 => ?_) (fun c3 => ?_)
  · have hf := gp hf c3
    refine g_bipush (v := (-2 : Int32)) E dX8_judge_19 (by decide) ?_
    have hf := Option.some.inj hf
    subst hf
    exact g_iret E dX8_judge_21
  · have hf := gn hf c3
    refine g_iload_n E 2 dX8_judge_10 rfl rfl ?_
    refine g_iconst (v := (0 : Int32)) E dX8_judge_11 (by decide) ?_
    refine g_iconst (v := (2 : Int32)) E dX8_judge_12 (by decide) ?_
    obtain ⟨q4, hq5, hf⟩ := gb hf
    refine g_callS (As := [.int x2, .int (0 : Int32), .int (2 : Int32)]) (rest := []) (n := 3) E (fX8_within_c k q1.2 x2 (0 : Int32) (2 : Int32) q4 hq5) gX8_judge_X8_within rfl rfl rfl (by decide +kernel) ⟨Nat.le_of_ble_eq_true rfl, Nat.le_of_ble_eq_true rfl⟩ rfl rfl (Nat.le_of_ble_eq_true rfl) dX8_judge_13 ?_
    refine g_if_ne (tgt := 22) E dX8_judge_16 (by decide) (fun c6 => ?_) (fun c6 => ?_)
    · have hf := gn hf c6
      refine g_aload_n E 0 dX8_judge_22 rfl rfl ?_
      refine g_get (C := RX8) (T := TX8) (N := 7) (ci := 8) E 0 0 (.ref (k.2.2.2.1 1)) hi_X8_judge_X8 (cwG0 _ _) rfl (by decide) hk_X8_judge_10 rfl dX8_judge_23 ?_
      refine g_iload_n E 1 dX8_judge_26 rfl rfl ?_
      refine g_iload_n E 2 dX8_judge_27 rfl rfl ?_
      obtain ⟨q7, hq8, hf⟩ := gb hf
      refine g_callV (C := RX0) (T := TX0) (N := 5) (ci := 0) (As := [.int x1, .int x2]) (rest := []) (n := 2) E 1 (fX0_add_c k q4.2 x1 x2 q7 hq8) gX8_judge_X0_add rfl rfl rfl (by decide +kernel) ⟨Nat.le_of_ble_eq_true rfl, Nat.le_of_ble_eq_true rfl⟩ rfl rfl (Nat.le_of_ble_eq_true rfl) rfl (cwG1 _ _) dX8_judge_28 ?_
      have hf := Option.some.inj hf
      subst hf
      exact g_iret E dX8_judge_31
    · have hf := gp hf c6
      refine g_bipush (v := (-2 : Int32)) E dX8_judge_19 (by decide) ?_
      have hf := Option.some.inj hf
      subst hf
      exact g_iret E dX8_judge_21
theorem hi_X4_add_X4 : ∀ w ∈ wsX40, w ∈ wsX4_add := by decide +kernel
theorem hk_X4_add_27 : Cond.fieldLink RX4 27 "PaperMarks$Papers" "count" "I" ∈ wsX4_add := by decide +kernel
theorem hk_X4_add_9 : Cond.fieldLink RX4 9 "PaperMarks$Papers" "worths" "[I" ∈ wsX4_add := by decide +kernel
theorem hk_X4_add_15 : Cond.fieldLink RX4 15 "PaperMarks$Papers" "writers" "[I" ∈ wsX4_add := by decide +kernel
theorem hk_X4_add_21 : Cond.fieldLink RX4 21 "PaperMarks$Papers" "laters" "[I" ∈ wsX4_add := by decide +kernel
def rm_fX4_add : Room := { frames := 0, cells := 0, slots := 0, locals := 0 }
set_option maxHeartbeats 4000000 in
set_option maxRecDepth 100000 in
theorem fX4_add_c (k : gK) (σ : St) (x1 : Int32) (x2 : Int32) (r : Int32 × St) (hf : fX4_add σ x1 x2 = some r) : MC k yX4_add wsX4_add rm_fX4_add [.ref (k.2.2.2.1 2), .int x1, .int x2] (cw k.2.2.2 σ) (some (.int r.1)) (cw k.2.2.2 r.2) := by
  refine MC_of (cc := cX4_add) (maxL := 3) (ret := (some .int)) (own := RX4) (lvs := [(0, .ref (k.2.2.2.1 2)), (1, .int x1), (2, .int x2)]) (by decide) rfl rfl (Nat.le_of_ble_eq_true rfl) rfl (fun X E => ?_)
  unfold fX4_add at hf
  refine g_aload_n E 0 dX4_add_0 rfl rfl ?_
  refine g_get (C := RX4) (T := TX4) (N := 6) (ci := 4) E 2 5 (.int (σ.2.1 1)) hi_X4_add_X4 (cwG2 _ _) rfl (by decide) hk_X4_add_27 rfl dX4_add_1 ?_
  refine g_bipush (v := (6 : Int32)) E dX4_add_4 (by decide) ?_
  refine g_icmp_lt (tgt := 12) E dX4_add_6 (by decide) (fun c1 => ?_) (fun c1 => ?_)
  · have hf := gp hf c1
    refine g_aload_n E 0 dX4_add_12 rfl rfl ?_
    refine g_get (C := RX4) (T := TX4) (N := 6) (ci := 4) E 2 0 (.ref (k.2.2.2.1 14)) hi_X4_add_X4 (cwG2 _ _) rfl (by decide) hk_X4_add_9 rfl dX4_add_13 ?_
    refine g_aload_n E 0 dX4_add_16 rfl rfl ?_
    refine g_get (C := RX4) (T := TX4) (N := 6) (ci := 4) E 2 5 (.int (σ.2.1 1)) hi_X4_add_X4 (cwG2 _ _) rfl (by decide) hk_X4_add_27 rfl dX4_add_17 ?_
    refine g_iload_n E 1 dX4_add_20 rfl rfl ?_
    obtain ⟨hi2, hf⟩ := gd hf
    refine g_iast E 14 (cw k.2.2.2 (uA σ 14 (σ.2.1 1).toNatClampNeg x1)) (σ.1 14) (cwG14 _ _) hi2 (cwA14 _ _ _ _) dX4_add_21 ?_
    refine g_aload_n E 0 dX4_add_22 rfl rfl ?_
    refine g_get (C := RX4) (T := TX4) (N := 6) (ci := 4) E 2 1 (.ref (k.2.2.2.1 15)) hi_X4_add_X4 (cwG2 _ _) rfl (by decide) hk_X4_add_15 rfl dX4_add_23 ?_
    refine g_aload_n E 0 dX4_add_26 rfl rfl ?_
    refine g_get (C := RX4) (T := TX4) (N := 6) (ci := 4) E 2 5 (.int (((uA σ 14 (σ.2.1 1).toNatClampNeg x1)).2.1 1)) hi_X4_add_X4 (cwG2 _ _) rfl (by decide) hk_X4_add_27 rfl dX4_add_27 ?_
    refine g_iload_n E 2 dX4_add_30 rfl rfl ?_
    obtain ⟨hi3, hf⟩ := gd hf
    refine g_iast E 15 (cw k.2.2.2 (uA ((uA σ 14 (σ.2.1 1).toNatClampNeg x1)) 15 ((((uA σ 14 (σ.2.1 1).toNatClampNeg x1)).2.1 1)).toNatClampNeg x2)) (((uA σ 14 (σ.2.1 1).toNatClampNeg x1)).1 15) (cwG15 _ _) hi3 (cwA15 _ _ _ _) dX4_add_31 ?_
    refine g_aload_n E 0 dX4_add_32 rfl rfl ?_
    refine g_get (C := RX4) (T := TX4) (N := 6) (ci := 4) E 2 3 (.ref (k.2.2.2.1 17)) hi_X4_add_X4 (cwG2 _ _) rfl (by decide) hk_X4_add_21 rfl dX4_add_33 ?_
    refine g_aload_n E 0 dX4_add_36 rfl rfl ?_
    refine g_get (C := RX4) (T := TX4) (N := 6) (ci := 4) E 2 5 (.int (((uA ((uA σ 14 (σ.2.1 1).toNatClampNeg x1)) 15 ((((uA σ 14 (σ.2.1 1).toNatClampNeg x1)).2.1 1)).toNatClampNeg x2)).2.1 1)) hi_X4_add_X4 (cwG2 _ _) rfl (by decide) hk_X4_add_27 rfl dX4_add_37 ?_
    refine g_bipush (v := (-6 : Int32)) E dX4_add_40 (by decide) ?_
    obtain ⟨hi4, hf⟩ := gd hf
    refine g_iast E 17 (cw k.2.2.2 (uA ((uA ((uA σ 14 (σ.2.1 1).toNatClampNeg x1)) 15 ((((uA σ 14 (σ.2.1 1).toNatClampNeg x1)).2.1 1)).toNatClampNeg x2)) 17 ((((uA ((uA σ 14 (σ.2.1 1).toNatClampNeg x1)) 15 ((((uA σ 14 (σ.2.1 1).toNatClampNeg x1)).2.1 1)).toNatClampNeg x2)).2.1 1)).toNatClampNeg (-6 : Int32))) (((uA ((uA σ 14 (σ.2.1 1).toNatClampNeg x1)) 15 ((((uA σ 14 (σ.2.1 1).toNatClampNeg x1)).2.1 1)).toNatClampNeg x2)).1 17) (cwG17 _ _) hi4 (cwA17 _ _ _ _) dX4_add_42 ?_
    refine g_aload_n E 0 dX4_add_43 rfl rfl ?_
    refine g_dup E dX4_add_44 rfl ?_
    refine g_get (C := RX4) (T := TX4) (N := 6) (ci := 4) E 2 5 (.int (((uA ((uA ((uA σ 14 (σ.2.1 1).toNatClampNeg x1)) 15 ((((uA σ 14 (σ.2.1 1).toNatClampNeg x1)).2.1 1)).toNatClampNeg x2)) 17 ((((uA ((uA σ 14 (σ.2.1 1).toNatClampNeg x1)) 15 ((((uA σ 14 (σ.2.1 1).toNatClampNeg x1)).2.1 1)).toNatClampNeg x2)).2.1 1)).toNatClampNeg (-6 : Int32))).2.1 1)) hi_X4_add_X4 (cwG2 _ _) rfl (by decide) hk_X4_add_27 rfl dX4_add_45 ?_
    refine g_dup_x1 E dX4_add_48 rfl rfl ?_
    refine g_iconst (v := (1 : Int32)) E dX4_add_49 (by decide) ?_
    refine g_iadd E dX4_add_50 ?_
    refine g_put (C := RX4) (T := TX4) (N := 6) (ci := 4) E 2 5 (cw k.2.2.2 (uI ((uA ((uA ((uA σ 14 (σ.2.1 1).toNatClampNeg x1)) 15 ((((uA σ 14 (σ.2.1 1).toNatClampNeg x1)).2.1 1)).toNatClampNeg x2)) 17 ((((uA ((uA σ 14 (σ.2.1 1).toNatClampNeg x1)) 15 ((((uA σ 14 (σ.2.1 1).toNatClampNeg x1)).2.1 1)).toNatClampNeg x2)).2.1 1)).toNatClampNeg (-6 : Int32))) 1 ((((((uA ((uA ((uA σ 14 (σ.2.1 1).toNatClampNeg x1)) 15 ((((uA σ 14 (σ.2.1 1).toNatClampNeg x1)).2.1 1)).toNatClampNeg x2)) 17 ((((uA ((uA σ 14 (σ.2.1 1).toNatClampNeg x1)) 15 ((((uA σ 14 (σ.2.1 1).toNatClampNeg x1)).2.1 1)).toNatClampNeg x2)).2.1 1)).toNatClampNeg (-6 : Int32))).2.1 1)) + (1 : Int32))))) hi_X4_add_X4 tyX4 tyX4_ok nmX4 (cwG2 _ _) rfl (by decide) hk_X4_add_27 rfl (by decide +kernel) (Nat.le_of_ble_eq_true rfl) (cwI1 _ _ _) dX4_add_51 ?_
    have hf := Option.some.inj hf
    subst hf
    exact g_iret E dX4_add_54
  · have hf := gn hf c1
    refine g_bipush (v := (-4 : Int32)) E dX4_add_9 (by decide) ?_
    have hf := Option.some.inj hf
    subst hf
    exact g_iret E dX4_add_11
theorem hi_X0_has_X0 : ∀ w ∈ wsX00, w ∈ wsX0_has := by decide +kernel
theorem hk_X0_has_24 : Cond.fieldLink RX0 24 "PaperMarks$Judges" "count" "I" ∈ wsX0_has := by decide +kernel
def rm_fX0_has : Room := { frames := 0, cells := 0, slots := 0, locals := 0 }
set_option maxHeartbeats 4000000 in
set_option maxRecDepth 100000 in
theorem fX0_has_c (k : gK) (σ : St) (x1 : Int32) (r : Int32 × St) (hf : fX0_has σ x1 = some r) : MC k yX0_has wsX0_has rm_fX0_has [.ref (k.2.2.2.1 1), .int x1] (cw k.2.2.2 σ) (some (.int r.1)) (cw k.2.2.2 r.2) := by
  refine MC_of (cc := cX0_has) (maxL := 2) (ret := (some .boolean)) (own := RX0) (lvs := [(0, .ref (k.2.2.2.1 1)), (1, .int x1)]) (by decide) rfl rfl (Nat.le_of_ble_eq_true rfl) rfl (fun X E => ?_)
  unfold fX0_has at hf
  refine g_iload_n E 1 dX0_has_0 rfl rfl ?_
  refine g_if_lt (tgt := 16) E dX0_has_1 (by decide) (fun c1 => ?_) (fun c1 => ?_)
  · have hf := gp hf c1
    refine g_iconst (v := (0 : Int32)) E dX0_has_16 (by decide) ?_
    have hf := Option.some.inj hf
    subst hf
    exact g_zret E (Or.inl rfl) dX0_has_17
  · have hf := gn hf c1
    refine g_iload_n E 1 dX0_has_4 rfl rfl ?_
    refine g_aload_n E 0 dX0_has_5 rfl rfl ?_
    refine g_get (C := RX0) (T := TX0) (N := 5) (ci := 0) E 1 4 (.int (σ.2.1 0)) hi_X0_has_X0 (cwG1 _ _) rfl (by decide) hk_X0_has_24 rfl dX0_has_6 ?_
    refine g_icmp_ge (tgt := 16) E dX0_has_9 (by decide) (fun c2 => ?_) (fun c2 => ?_)
    · have hf := gp hf c2
      refine g_iconst (v := (0 : Int32)) E dX0_has_16 (by decide) ?_
      have hf := Option.some.inj hf
      subst hf
      exact g_zret E (Or.inl rfl) dX0_has_17
    · have hf := gn hf c2
      refine g_iconst (v := (1 : Int32)) E dX0_has_12 (by decide) ?_
      refine g_goto (tgt := 17) E dX0_has_13 (by decide) ?_
      have hf := Option.some.inj hf
      subst hf
      exact g_zret E (Or.inr rfl) dX0_has_17
theorem hi_X8_paper_X8 : ∀ w ∈ wsX80, w ∈ wsX8_paper := by decide +kernel
theorem hk_X8_paper_19 : Cond.fieldLink RX8 19 "PaperMarks" "papers" "LPaperMarks$Papers;" ∈ wsX8_paper := by decide +kernel
theorem hk_X8_paper_10 : Cond.fieldLink RX8 10 "PaperMarks" "judges" "LPaperMarks$Judges;" ∈ wsX8_paper := by decide +kernel
def rm_fX8_paper : Room := { frames := 1, cells := 0, slots := 0, locals := 22 }
set_option maxHeartbeats 4000000 in
set_option maxRecDepth 100000 in
theorem fX8_paper_w19 {k : gK} {X : gX} (E : gE k X cX8_paper RX8 wsX8_paper 3 (some .int) rm_fX8_paper) (σ : St) (x1 : Int32) (x2 : Int32) (r : Int32 × St) (hf : fX8_paper_b19 σ x1 x2 = some r) : G k X 3 (some (.int r.1)) (cw k.2.2.2 r.2) (cw k.2.2.2 σ) [(0, .ref (k.2.2.2.1 0)), (1, .int x1), (2, .int x2)] [] 19 := by
  unfold fX8_paper_b19 at hf
  refine g_iload_n E 1 dX8_paper_19 rfl rfl ?_
  refine g_iconst (v := (0 : Int32)) E dX8_paper_20 (by decide) ?_
  refine g_iconst (v := (5 : Int32)) E dX8_paper_21 (by decide) ?_
  obtain ⟨q1, hq2, hf⟩ := gb hf
  refine g_callS (As := [.int x1, .int (0 : Int32), .int (5 : Int32)]) (rest := []) (n := 3) E (fX8_within_c k σ x1 (0 : Int32) (5 : Int32) q1 hq2) gX8_paper_X8_within rfl rfl rfl (by decide +kernel) ⟨Nat.le_of_ble_eq_true rfl, Nat.le_of_ble_eq_true rfl⟩ rfl rfl (Nat.le_of_ble_eq_true rfl) dX8_paper_22 ?_
  refine g_if_ne (tgt := 31) E dX8_paper_25 (by decide) (fun c3 => ?_) (fun c3 => ?_)
  · have hf := gn hf c3
    refine g_aload_n E 0 dX8_paper_31 rfl rfl ?_
    refine g_get (C := RX8) (T := TX8) (N := 7) (ci := 8) E 0 1 (.ref (k.2.2.2.1 2)) hi_X8_paper_X8 (cwG0 _ _) rfl (by decide) hk_X8_paper_19 rfl dX8_paper_32 ?_
    refine g_iload_n E 1 dX8_paper_35 rfl rfl ?_
    refine g_iload_n E 2 dX8_paper_36 rfl rfl ?_
    obtain ⟨q4, hq5, hf⟩ := gb hf
    refine g_callV (C := RX4) (T := TX4) (N := 6) (ci := 4) (As := [.int x1, .int x2]) (rest := []) (n := 2) E 2 (fX4_add_c k q1.2 x1 x2 q4 hq5) gX8_paper_X4_add rfl rfl rfl (by decide +kernel) ⟨Nat.le_of_ble_eq_true rfl, Nat.le_of_ble_eq_true rfl⟩ rfl rfl (Nat.le_of_ble_eq_true rfl) rfl (cwG2 _ _) dX8_paper_37 ?_
    have hf := Option.some.inj hf
    subst hf
    exact g_iret E dX8_paper_40
  · have hf := gp hf c3
    refine g_bipush (v := (-2 : Int32)) E dX8_paper_28 (by decide) ?_
    have hf := Option.some.inj hf
    subst hf
    exact g_iret E dX8_paper_30
set_option maxHeartbeats 4000000 in
set_option maxRecDepth 100000 in
theorem fX8_paper_c (k : gK) (σ : St) (x1 : Int32) (x2 : Int32) (r : Int32 × St) (hf : fX8_paper σ x1 x2 = some r) : MC k yX8_paper wsX8_paper rm_fX8_paper [.ref (k.2.2.2.1 0), .int x1, .int x2] (cw k.2.2.2 σ) (some (.int r.1)) (cw k.2.2.2 r.2) := by
  refine MC_of (cc := cX8_paper) (maxL := 3) (ret := (some .int)) (own := RX8) (lvs := [(0, .ref (k.2.2.2.1 0)), (1, .int x1), (2, .int x2)]) (by decide) rfl rfl (Nat.le_of_ble_eq_true rfl) rfl (fun X E => ?_)
  unfold fX8_paper at hf
  refine g_iload_n E 2 dX8_paper_0 rfl rfl ?_
  refine g_bipush (v := (-6 : Int32)) E dX8_paper_1 (by decide) ?_
  refine g_icmp_eq (tgt := 19) E dX8_paper_3 (by decide) (fun c1 => ?_) (fun c1 => ?_)
  · have hf := gp hf c1
    exact fX8_paper_w19 E σ x1 x2 r hf
  · have hf := gn hf c1
    refine g_aload_n E 0 dX8_paper_6 rfl rfl ?_
    refine g_get (C := RX8) (T := TX8) (N := 7) (ci := 8) E 0 0 (.ref (k.2.2.2.1 1)) hi_X8_paper_X8 (cwG0 _ _) rfl (by decide) hk_X8_paper_10 rfl dX8_paper_7 ?_
    refine g_iload_n E 2 dX8_paper_10 rfl rfl ?_
    obtain ⟨q2, hq3, hf⟩ := gb hf
    refine g_callV (C := RX0) (T := TX0) (N := 5) (ci := 0) (As := [.int x2]) (rest := []) (n := 1) E 1 (fX0_has_c k σ x2 q2 hq3) gX8_paper_X0_has rfl rfl rfl (by decide +kernel) ⟨Nat.le_of_ble_eq_true rfl, Nat.le_of_ble_eq_true rfl⟩ rfl rfl (Nat.le_of_ble_eq_true rfl) rfl (cwG1 _ _) dX8_paper_11 ?_
    refine g_if_ne (tgt := 19) E dX8_paper_14 (by decide) (fun c4 => ?_) (fun c4 => ?_)
    · have hf := gn hf c4
      exact fX8_paper_w19 E q2.2 x1 x2 r hf
    · have hf := gp hf c4
      refine g_iconst (v := (-1 : Int32)) E dX8_paper_17 (by decide) ?_
      have hf := Option.some.inj hf
      subst hf
      exact g_iret E dX8_paper_18
theorem hi_X0_tieOf_X0 : ∀ w ∈ wsX00, w ∈ wsX0_tieOf := by decide +kernel
theorem hk_X0_tieOf_21 : Cond.fieldLink RX0 21 "PaperMarks$Judges" "ties" "[I" ∈ wsX0_tieOf := by decide +kernel
def rm_fX0_tieOf : Room := { frames := 1, cells := 0, slots := 0, locals := 21 }
set_option maxHeartbeats 4000000 in
set_option maxRecDepth 100000 in
theorem fX0_tieOf_c (k : gK) (σ : St) (x1 : Int32) (x2 : Int32) (r : Int32 × St) (hf : fX0_tieOf σ x1 x2 = some r) : MC k yX0_tieOf wsX0_tieOf rm_fX0_tieOf [.ref (k.2.2.2.1 1), .int x1, .int x2] (cw k.2.2.2 σ) (some (.int r.1)) (cw k.2.2.2 r.2) := by
  refine MC_of (cc := cX0_tieOf) (maxL := 3) (ret := (some .int)) (own := RX0) (lvs := [(0, .ref (k.2.2.2.1 1)), (1, .int x1), (2, .int x2)]) (by decide) rfl rfl (Nat.le_of_ble_eq_true rfl) rfl (fun X E => ?_)
  unfold fX0_tieOf at hf
  refine g_aload_n E 0 dX0_tieOf_0 rfl rfl ?_
  refine g_iload_n E 1 dX0_tieOf_1 rfl rfl ?_
  obtain ⟨q1, hq2, hf⟩ := gb hf
  refine g_callV (C := RX0) (T := TX0) (N := 5) (ci := 0) (As := [.int x1]) (rest := []) (n := 1) E 1 (fX0_has_c k σ x1 q1 hq2) gX0_tieOf_X0_has rfl rfl rfl (by decide +kernel) ⟨Nat.le_of_ble_eq_true rfl, Nat.le_of_ble_eq_true rfl⟩ rfl rfl (Nat.le_of_ble_eq_true rfl) rfl (cwG1 _ _) dX0_tieOf_2 ?_
  refine g_if_eq (tgt := 30) E dX0_tieOf_5 (by decide) (fun c3 => ?_) (fun c3 => ?_)
  · have hf := gp hf c3
    refine g_iconst (v := (0 : Int32)) E dX0_tieOf_30 (by decide) ?_
    have hf := Option.some.inj hf
    subst hf
    exact g_iret E dX0_tieOf_31
  · have hf := gn hf c3
    refine g_aload_n E 0 dX0_tieOf_8 rfl rfl ?_
    refine g_iload_n E 2 dX0_tieOf_9 rfl rfl ?_
    obtain ⟨q4, hq5, hf⟩ := gb hf
    refine g_callV (C := RX0) (T := TX0) (N := 5) (ci := 0) (As := [.int x2]) (rest := []) (n := 1) E 1 (fX0_has_c k q1.2 x2 q4 hq5) gX0_tieOf_X0_has rfl rfl rfl (by decide +kernel) ⟨Nat.le_of_ble_eq_true rfl, Nat.le_of_ble_eq_true rfl⟩ rfl rfl (Nat.le_of_ble_eq_true rfl) rfl (cwG1 _ _) dX0_tieOf_10 ?_
    refine g_if_eq (tgt := 30) E dX0_tieOf_13 (by decide) (fun c6 => ?_) (fun c6 => ?_)
    · have hf := gp hf c6
      refine g_iconst (v := (0 : Int32)) E dX0_tieOf_30 (by decide) ?_
      have hf := Option.some.inj hf
      subst hf
      exact g_iret E dX0_tieOf_31
    · have hf := gn hf c6
      refine g_aload_n E 0 dX0_tieOf_16 rfl rfl ?_
      refine g_get (C := RX0) (T := TX0) (N := 5) (ci := 0) E 1 3 (.ref (k.2.2.2.1 13)) hi_X0_tieOf_X0 (cwG1 _ _) rfl (by decide) hk_X0_tieOf_21 rfl dX0_tieOf_17 ?_
      refine g_iload_n E 1 dX0_tieOf_20 rfl rfl ?_
      refine g_bipush (v := (6 : Int32)) E dX0_tieOf_21 (by decide) ?_
      refine g_imul E dX0_tieOf_23 ?_
      refine g_iload_n E 2 dX0_tieOf_24 rfl rfl ?_
      refine g_iadd E dX0_tieOf_25 ?_
      obtain ⟨hi7, hf⟩ := gd hf
      refine g_iald E 13 (q4.2.1 13) (cwG13 _ _) hi7 dX0_tieOf_26 ?_
      refine g_goto (tgt := 31) E dX0_tieOf_27 (by decide) ?_
      have hf := Option.some.inj hf
      subst hf
      exact g_iret E dX0_tieOf_31
theorem hi_X0_putTie_X0 : ∀ w ∈ wsX00, w ∈ wsX0_putTie := by decide +kernel
theorem hk_X0_putTie_21 : Cond.fieldLink RX0 21 "PaperMarks$Judges" "ties" "[I" ∈ wsX0_putTie := by decide +kernel
def rm_fX0_putTie : Room := { frames := 0, cells := 0, slots := 0, locals := 0 }
set_option maxHeartbeats 4000000 in
set_option maxRecDepth 100000 in
theorem fX0_putTie_c (k : gK) (σ : St) (x1 : Int32) (x2 : Int32) (x3 : Int32) (r : Unit × St) (hf : fX0_putTie σ x1 x2 x3 = some r) : MC k yX0_putTie wsX0_putTie rm_fX0_putTie [.ref (k.2.2.2.1 1), .int x1, .int x2, .int x3] (cw k.2.2.2 σ) (none) (cw k.2.2.2 r.2) := by
  refine MC_of (cc := cX0_putTie) (maxL := 4) (ret := none) (own := RX0) (lvs := [(0, .ref (k.2.2.2.1 1)), (1, .int x1), (2, .int x2), (3, .int x3)]) (by decide) rfl rfl (Nat.le_of_ble_eq_true rfl) rfl (fun X E => ?_)
  unfold fX0_putTie at hf
  refine g_aload_n E 0 dX0_putTie_0 rfl rfl ?_
  refine g_get (C := RX0) (T := TX0) (N := 5) (ci := 0) E 1 3 (.ref (k.2.2.2.1 13)) hi_X0_putTie_X0 (cwG1 _ _) rfl (by decide) hk_X0_putTie_21 rfl dX0_putTie_1 ?_
  refine g_iload_n E 1 dX0_putTie_4 rfl rfl ?_
  refine g_bipush (v := (6 : Int32)) E dX0_putTie_5 (by decide) ?_
  refine g_imul E dX0_putTie_7 ?_
  refine g_iload_n E 2 dX0_putTie_8 rfl rfl ?_
  refine g_iadd E dX0_putTie_9 ?_
  refine g_iload_n E 3 dX0_putTie_10 rfl rfl ?_
  obtain ⟨hi1, hf⟩ := gd hf
  refine g_iast E 13 (cw k.2.2.2 (uA σ 13 ((((x1 * (6 : Int32))) + x2)).toNatClampNeg x3)) (σ.1 13) (cwG13 _ _) hi1 (cwA13 _ _ _ _) dX0_putTie_11 ?_
  refine g_aload_n E 0 dX0_putTie_12 rfl rfl ?_
  refine g_get (C := RX0) (T := TX0) (N := 5) (ci := 0) E 1 3 (.ref (k.2.2.2.1 13)) hi_X0_putTie_X0 (cwG1 _ _) rfl (by decide) hk_X0_putTie_21 rfl dX0_putTie_13 ?_
  refine g_iload_n E 2 dX0_putTie_16 rfl rfl ?_
  refine g_bipush (v := (6 : Int32)) E dX0_putTie_17 (by decide) ?_
  refine g_imul E dX0_putTie_19 ?_
  refine g_iload_n E 1 dX0_putTie_20 rfl rfl ?_
  refine g_iadd E dX0_putTie_21 ?_
  refine g_iload_n E 3 dX0_putTie_22 rfl rfl ?_
  obtain ⟨hi2, hf⟩ := gd hf
  refine g_iast E 13 (cw k.2.2.2 (uA ((uA σ 13 ((((x1 * (6 : Int32))) + x2)).toNatClampNeg x3)) 13 ((((x2 * (6 : Int32))) + x1)).toNatClampNeg x3)) (((uA σ 13 ((((x1 * (6 : Int32))) + x2)).toNatClampNeg x3)).1 13) (cwG13 _ _) hi2 (cwA13 _ _ _ _) dX0_putTie_23 ?_
  have hf := Option.some.inj hf
  subst hf
  exact g_vret E dX0_putTie_24
theorem hi_X8_tie_X8 : ∀ w ∈ wsX80, w ∈ wsX8_tie := by decide +kernel
theorem hk_X8_tie_10 : Cond.fieldLink RX8 10 "PaperMarks" "judges" "LPaperMarks$Judges;" ∈ wsX8_tie := by decide +kernel
def rm_fX8_tie : Room := { frames := 2, cells := 0, slots := 0, locals := 43 }
set_option maxHeartbeats 4000000 in
set_option maxRecDepth 100000 in
theorem fX8_tie_c (k : gK) (σ : St) (x1 : Int32) (x2 : Int32) (x3 : Int32) (r : Int32 × St) (hf : fX8_tie σ x1 x2 x3 = some r) : MC k yX8_tie wsX8_tie rm_fX8_tie [.ref (k.2.2.2.1 0), .int x1, .int x2, .int x3] (cw k.2.2.2 σ) (some (.int r.1)) (cw k.2.2.2 r.2) := by
  refine MC_of (cc := cX8_tie) (maxL := 5) (ret := (some .int)) (own := RX8) (lvs := [(0, .ref (k.2.2.2.1 0)), (1, .int x1), (2, .int x2), (3, .int x3)]) (by decide) rfl rfl (Nat.le_of_ble_eq_true rfl) rfl (fun X E => ?_)
  unfold fX8_tie at hf
  refine g_aload_n E 0 dX8_tie_0 rfl rfl ?_
  refine g_get (C := RX8) (T := TX8) (N := 7) (ci := 8) E 0 0 (.ref (k.2.2.2.1 1)) hi_X8_tie_X8 (cwG0 _ _) rfl (by decide) hk_X8_tie_10 rfl dX8_tie_1 ?_
  refine g_iload_n E 1 dX8_tie_4 rfl rfl ?_
  obtain ⟨q1, hq2, hf⟩ := gb hf
  refine g_callV (C := RX0) (T := TX0) (N := 5) (ci := 0) (As := [.int x1]) (rest := []) (n := 1) E 1 (fX0_has_c k σ x1 q1 hq2) gX8_tie_X0_has rfl rfl rfl (by decide +kernel) ⟨Nat.le_of_ble_eq_true rfl, Nat.le_of_ble_eq_true rfl⟩ rfl rfl (Nat.le_of_ble_eq_true rfl) rfl (cwG1 _ _) dX8_tie_5 ?_
  refine g_if_eq (tgt := 27) E dX8_tie_8 (by decide) (fun c3 => ?_) (fun c3 => ?_)
  · have hf := gp hf c3
    refine g_iconst (v := (-1 : Int32)) E dX8_tie_27 (by decide) ?_
    have hf := Option.some.inj hf
    subst hf
    exact g_iret E dX8_tie_28
  · have hf := gn hf c3
    refine g_aload_n E 0 dX8_tie_11 rfl rfl ?_
    refine g_get (C := RX8) (T := TX8) (N := 7) (ci := 8) E 0 0 (.ref (k.2.2.2.1 1)) hi_X8_tie_X8 (cwG0 _ _) rfl (by decide) hk_X8_tie_10 rfl dX8_tie_12 ?_
    refine g_iload_n E 2 dX8_tie_15 rfl rfl ?_
    obtain ⟨q4, hq5, hf⟩ := gb hf
    refine g_callV (C := RX0) (T := TX0) (N := 5) (ci := 0) (As := [.int x2]) (rest := []) (n := 1) E 1 (fX0_has_c k q1.2 x2 q4 hq5) gX8_tie_X0_has rfl rfl rfl (by decide +kernel) ⟨Nat.le_of_ble_eq_true rfl, Nat.le_of_ble_eq_true rfl⟩ rfl rfl (Nat.le_of_ble_eq_true rfl) rfl (cwG1 _ _) dX8_tie_16 ?_
    refine g_if_eq (tgt := 27) E dX8_tie_19 (by decide) (fun c6 => ?_) (fun c6 => ?_)
    · have hf := gp hf c6
      refine g_iconst (v := (-1 : Int32)) E dX8_tie_27 (by decide) ?_
      have hf := Option.some.inj hf
      subst hf
      exact g_iret E dX8_tie_28
    · have hf := gn hf c6
      refine g_iload_n E 1 dX8_tie_22 rfl rfl ?_
      refine g_iload_n E 2 dX8_tie_23 rfl rfl ?_
      refine g_icmp_ne (tgt := 29) E dX8_tie_24 (by decide) (fun c7 => ?_) (fun c7 => ?_)
      · have hf := gn hf c7
        refine g_iload_n E 3 dX8_tie_29 rfl rfl ?_
        refine g_iconst (v := (-1 : Int32)) E dX8_tie_30 (by decide) ?_
        refine g_iconst (v := (1 : Int32)) E dX8_tie_31 (by decide) ?_
        obtain ⟨q8, hq9, hf⟩ := gb hf
        refine g_callS (As := [.int x3, .int (-1 : Int32), .int (1 : Int32)]) (rest := []) (n := 3) E (fX8_within_c k q4.2 x3 (-1 : Int32) (1 : Int32) q8 hq9) gX8_tie_X8_within rfl rfl rfl (by decide +kernel) ⟨Nat.le_of_ble_eq_true rfl, Nat.le_of_ble_eq_true rfl⟩ rfl rfl (Nat.le_of_ble_eq_true rfl) dX8_tie_32 ?_
        refine g_if_ne (tgt := 41) E dX8_tie_35 (by decide) (fun c10 => ?_) (fun c10 => ?_)
        · have hf := gn hf c10
          refine g_aload_n E 0 dX8_tie_41 rfl rfl ?_
          refine g_get (C := RX8) (T := TX8) (N := 7) (ci := 8) E 0 0 (.ref (k.2.2.2.1 1)) hi_X8_tie_X8 (cwG0 _ _) rfl (by decide) hk_X8_tie_10 rfl dX8_tie_42 ?_
          refine g_iload_n E 1 dX8_tie_45 rfl rfl ?_
          refine g_iload_n E 2 dX8_tie_46 rfl rfl ?_
          obtain ⟨q11, hq12, hf⟩ := gb hf
          refine g_callV (C := RX0) (T := TX0) (N := 5) (ci := 0) (As := [.int x1, .int x2]) (rest := []) (n := 2) E 1 (fX0_tieOf_c k q8.2 x1 x2 q11 hq12) gX8_tie_X0_tieOf rfl rfl rfl (by decide +kernel) ⟨Nat.le_of_ble_eq_true rfl, Nat.le_of_ble_eq_true rfl⟩ rfl rfl (Nat.le_of_ble_eq_true rfl) rfl (cwG1 _ _) dX8_tie_47 ?_
          refine g_istore E [(4, .int q11.1), (0, .ref (k.2.2.2.1 0)), (1, .int x1), (2, .int x2), (3, .int x3)] dX8_tie_50 (by decide) rfl ?_
          refine g_aload_n E 1 dX8_tie_52 rfl rfl ?_
          refine g_get (C := RX8) (T := TX8) (N := 7) (ci := 8) E 0 0 (.ref (k.2.2.2.1 1)) hi_X8_tie_X8 (cwG0 _ _) rfl (by decide) hk_X8_tie_10 rfl dX8_tie_53 ?_
          refine g_iload_n E 2 dX8_tie_56 rfl rfl ?_
          refine g_iload_n E 3 dX8_tie_57 rfl rfl ?_
          refine g_iload_n E 4 dX8_tie_58 rfl rfl ?_
          obtain ⟨q13, hq14, hf⟩ := gb hf
          refine g_callV (C := RX0) (T := TX0) (N := 5) (ci := 0) (As := [.int x1, .int x2, .int x3]) (rest := []) (n := 3) E 1 (fX0_putTie_c k q11.2 x1 x2 x3 q13 hq14) gX8_tie_X0_putTie rfl rfl rfl (by decide +kernel) ⟨Nat.le_of_ble_eq_true rfl, Nat.le_of_ble_eq_true rfl⟩ rfl rfl (Nat.le_of_ble_eq_true rfl) rfl (cwG1 _ _) dX8_tie_59 ?_
          refine g_iload E 0 dX8_tie_62 rfl ?_
          refine g_bipush (v := (10 : Int32)) E dX8_tie_64 (by decide) ?_
          refine g_iadd E dX8_tie_66 ?_
          have hf := Option.some.inj hf
          subst hf
          exact g_iret E dX8_tie_67
        · have hf := gp hf c10
          refine g_bipush (v := (-2 : Int32)) E dX8_tie_38 (by decide) ?_
          have hf := Option.some.inj hf
          subst hf
          exact g_iret E dX8_tie_40
      · have hf := gp hf c7
        refine g_iconst (v := (-1 : Int32)) E dX8_tie_27 (by decide) ?_
        have hf := Option.some.inj hf
        subst hf
        exact g_iret E dX8_tie_28
def rm_fX8_replace_19 : Room := { frames := 0, cells := 0, slots := 0, locals := 0 }
set_option maxHeartbeats 4000000 in
set_option maxRecDepth 100000 in
theorem fX8_replace_19_c (k : gK) (σ : St) (x1 : Int32) (x2 : Int32) (r : Int32 × St) (hf : fX8_replace_19 σ x1 x2 = some r) : MC k yX8_replace wsX8_replace rm_fX8_replace_19 [.ref (k.2.2.2.1 19), .int x1, .int x2] (cw k.2.2.2 σ) (some (.int r.1)) (cw k.2.2.2 r.2) := by
  refine MC_of (cc := cX8_replace) (maxL := 4) (ret := (some .int)) (own := RX8) (lvs := [(0, .ref (k.2.2.2.1 19)), (1, .int x1), (2, .int x2)]) (by decide) rfl rfl (Nat.le_of_ble_eq_true rfl) rfl (fun X E => ?_)
  unfold fX8_replace_19 at hf
  refine g_aload_n E 0 dX8_replace_0 rfl rfl ?_
  refine g_iload_n E 1 dX8_replace_1 rfl rfl ?_
  obtain ⟨hi1, hf⟩ := gd hf
  refine g_iald E 19 (σ.1 19) (cwG19 _ _) hi1 dX8_replace_2 ?_
  refine g_istore_n E [(3, .int (σ.1 19 x1.toNatClampNeg)), (0, .ref (k.2.2.2.1 19)), (1, .int x1), (2, .int x2)] dX8_replace_3 rfl (by decide) rfl ?_
  refine g_aload_n E 1 dX8_replace_4 rfl rfl ?_
  refine g_iload_n E 2 dX8_replace_5 rfl rfl ?_
  refine g_iload_n E 3 dX8_replace_6 rfl rfl ?_
  obtain ⟨hi2, hf⟩ := gd hf
  refine g_iast E 19 (cw k.2.2.2 (uA σ 19 x1.toNatClampNeg x2)) (σ.1 19) (cwG19 _ _) hi2 (cwA19 _ _ _ _) dX8_replace_7 ?_
  refine g_iload_n E 0 dX8_replace_8 rfl rfl ?_
  have hf := Option.some.inj hf
  subst hf
  exact g_iret E dX8_replace_9
theorem hi_X4_has_X4 : ∀ w ∈ wsX40, w ∈ wsX4_has := by decide +kernel
theorem hk_X4_has_27 : Cond.fieldLink RX4 27 "PaperMarks$Papers" "count" "I" ∈ wsX4_has := by decide +kernel
def rm_fX4_has : Room := { frames := 0, cells := 0, slots := 0, locals := 0 }
set_option maxHeartbeats 4000000 in
set_option maxRecDepth 100000 in
theorem fX4_has_c (k : gK) (σ : St) (x1 : Int32) (r : Int32 × St) (hf : fX4_has σ x1 = some r) : MC k yX4_has wsX4_has rm_fX4_has [.ref (k.2.2.2.1 2), .int x1] (cw k.2.2.2 σ) (some (.int r.1)) (cw k.2.2.2 r.2) := by
  refine MC_of (cc := cX4_has) (maxL := 2) (ret := (some .boolean)) (own := RX4) (lvs := [(0, .ref (k.2.2.2.1 2)), (1, .int x1)]) (by decide) rfl rfl (Nat.le_of_ble_eq_true rfl) rfl (fun X E => ?_)
  unfold fX4_has at hf
  refine g_iload_n E 1 dX4_has_0 rfl rfl ?_
  refine g_if_lt (tgt := 16) E dX4_has_1 (by decide) (fun c1 => ?_) (fun c1 => ?_)
  · have hf := gp hf c1
    refine g_iconst (v := (0 : Int32)) E dX4_has_16 (by decide) ?_
    have hf := Option.some.inj hf
    subst hf
    exact g_zret E (Or.inl rfl) dX4_has_17
  · have hf := gn hf c1
    refine g_iload_n E 1 dX4_has_4 rfl rfl ?_
    refine g_aload_n E 0 dX4_has_5 rfl rfl ?_
    refine g_get (C := RX4) (T := TX4) (N := 6) (ci := 4) E 2 5 (.int (σ.2.1 1)) hi_X4_has_X4 (cwG2 _ _) rfl (by decide) hk_X4_has_27 rfl dX4_has_6 ?_
    refine g_icmp_ge (tgt := 16) E dX4_has_9 (by decide) (fun c2 => ?_) (fun c2 => ?_)
    · have hf := gp hf c2
      refine g_iconst (v := (0 : Int32)) E dX4_has_16 (by decide) ?_
      have hf := Option.some.inj hf
      subst hf
      exact g_zret E (Or.inl rfl) dX4_has_17
    · have hf := gn hf c2
      refine g_iconst (v := (1 : Int32)) E dX4_has_12 (by decide) ?_
      refine g_goto (tgt := 17) E dX4_has_13 (by decide) ?_
      have hf := Option.some.inj hf
      subst hf
      exact g_zret E (Or.inr rfl) dX4_has_17
theorem hi_X8_mark_X8 : ∀ w ∈ wsX80, w ∈ wsX8_mark := by decide +kernel
theorem hi_X8_mark_X4 : ∀ w ∈ wsX40, w ∈ wsX8_mark := by decide +kernel
theorem hi_X8_mark_X1 : ∀ w ∈ wsX10, w ∈ wsX8_mark := by decide +kernel
theorem hk_X8_mark_10 : Cond.fieldLink RX8 10 "PaperMarks" "judges" "LPaperMarks$Judges;" ∈ wsX8_mark := by decide +kernel
theorem hk_X8_mark_19 : Cond.fieldLink RX8 19 "PaperMarks" "papers" "LPaperMarks$Papers;" ∈ wsX8_mark := by decide +kernel
theorem hk_X8_mark_83 : Cond.fieldLink RX8 83 "PaperMarks$Papers" "writers" "[I" ∈ wsX8_mark := by decide +kernel
theorem hk_X8_mark_26 : Cond.fieldLink RX8 26 "PaperMarks" "marks" "LPaperMarks$Marks;" ∈ wsX8_mark := by decide +kernel
theorem hk_X8_mark_87 : Cond.fieldLink RX8 87 "PaperMarks$Marks" "came" "[I" ∈ wsX8_mark := by decide +kernel
def rm_fX8_mark : Room := { frames := 1, cells := 0, slots := 0, locals := 23 }
set_option maxHeartbeats 4000000 in
set_option maxRecDepth 100000 in
theorem fX8_mark_w76 {k : gK} {X : gX} (E : gE k X cX8_mark RX8 wsX8_mark 4 (some .int) rm_fX8_mark) (σ : St) (t1 : Int32) (t2 : Int32) (r : Int32 × St) (hf : fX8_mark_b76 σ t1 t2 = some r) : G k X 4 (some (.int r.1)) (cw k.2.2.2 r.2) (cw k.2.2.2 σ) [] [.int t2, .int t1, .ref (k.2.2.2.1 19)] 76 := by
  unfold fX8_mark_b76 at hf
  obtain ⟨q1, hq2, hf⟩ := gb hf
  refine g_callS (As := [.ref (k.2.2.2.1 19), .int t1, .int t2]) (rest := []) (n := 3) E (fX8_replace_19_c k σ t1 t2 q1 hq2) gX8_mark_X8_replace rfl rfl rfl (by decide +kernel) ⟨Nat.le_of_ble_eq_true rfl, Nat.le_of_ble_eq_true rfl⟩ rfl rfl (Nat.le_of_ble_eq_true rfl) dX8_mark_76 ?_
  have hf := Option.some.inj hf
  subst hf
  exact g_iret E dX8_mark_79
set_option maxHeartbeats 4000000 in
set_option maxRecDepth 100000 in
theorem fX8_mark_c (k : gK) (σ : St) (x1 : Int32) (x2 : Int32) (x3 : Int32) (r : Int32 × St) (hf : fX8_mark σ x1 x2 x3 = some r) : MC k yX8_mark wsX8_mark rm_fX8_mark [.ref (k.2.2.2.1 0), .int x1, .int x2, .int x3] (cw k.2.2.2 σ) (some (.int r.1)) (cw k.2.2.2 r.2) := by
  refine MC_of (cc := cX8_mark) (maxL := 4) (ret := (some .int)) (own := RX8) (lvs := [(0, .ref (k.2.2.2.1 0)), (1, .int x1), (2, .int x2), (3, .int x3)]) (by decide) rfl rfl (Nat.le_of_ble_eq_true rfl) rfl (fun X E => ?_)
  unfold fX8_mark at hf
  refine g_aload_n E 0 dX8_mark_0 rfl rfl ?_
  refine g_get (C := RX8) (T := TX8) (N := 7) (ci := 8) E 0 0 (.ref (k.2.2.2.1 1)) hi_X8_mark_X8 (cwG0 _ _) rfl (by decide) hk_X8_mark_10 rfl dX8_mark_1 ?_
  refine g_iload_n E 1 dX8_mark_4 rfl rfl ?_
  obtain ⟨q1, hq2, hf⟩ := gb hf
  refine g_callV (C := RX0) (T := TX0) (N := 5) (ci := 0) (As := [.int x1]) (rest := []) (n := 1) E 1 (fX0_has_c k σ x1 q1 hq2) gX8_mark_X0_has rfl rfl rfl (by decide +kernel) ⟨Nat.le_of_ble_eq_true rfl, Nat.le_of_ble_eq_true rfl⟩ rfl rfl (Nat.le_of_ble_eq_true rfl) rfl (cwG1 _ _) dX8_mark_5 ?_
  refine g_if_eq (tgt := 22) E dX8_mark_8 (by decide) (fun c3 => ?_) (fun c3 => ?_)
  · have hf := gp hf c3
    refine g_iconst (v := (-1 : Int32)) E dX8_mark_22 (by decide) ?_
    have hf := Option.some.inj hf
    subst hf
    exact g_iret E dX8_mark_23
  · have hf := gn hf c3
    refine g_aload_n E 0 dX8_mark_11 rfl rfl ?_
    refine g_get (C := RX8) (T := TX8) (N := 7) (ci := 8) E 0 1 (.ref (k.2.2.2.1 2)) hi_X8_mark_X8 (cwG0 _ _) rfl (by decide) hk_X8_mark_19 rfl dX8_mark_12 ?_
    refine g_iload_n E 2 dX8_mark_15 rfl rfl ?_
    obtain ⟨q4, hq5, hf⟩ := gb hf
    refine g_callV (C := RX4) (T := TX4) (N := 6) (ci := 4) (As := [.int x2]) (rest := []) (n := 1) E 2 (fX4_has_c k q1.2 x2 q4 hq5) gX8_mark_X4_has rfl rfl rfl (by decide +kernel) ⟨Nat.le_of_ble_eq_true rfl, Nat.le_of_ble_eq_true rfl⟩ rfl rfl (Nat.le_of_ble_eq_true rfl) rfl (cwG2 _ _) dX8_mark_16 ?_
    refine g_if_ne (tgt := 24) E dX8_mark_19 (by decide) (fun c6 => ?_) (fun c6 => ?_)
    · have hf := gn hf c6
      refine g_iload_n E 3 dX8_mark_24 rfl rfl ?_
      refine g_iconst (v := (-1 : Int32)) E dX8_mark_25 (by decide) ?_
      refine g_iconst (v := (5 : Int32)) E dX8_mark_26 (by decide) ?_
      obtain ⟨q7, hq8, hf⟩ := gb hf
      refine g_callS (As := [.int x3, .int (-1 : Int32), .int (5 : Int32)]) (rest := []) (n := 3) E (fX8_within_c k q4.2 x3 (-1 : Int32) (5 : Int32) q7 hq8) gX8_mark_X8_within rfl rfl rfl (by decide +kernel) ⟨Nat.le_of_ble_eq_true rfl, Nat.le_of_ble_eq_true rfl⟩ rfl rfl (Nat.le_of_ble_eq_true rfl) dX8_mark_27 ?_
      refine g_if_ne (tgt := 36) E dX8_mark_30 (by decide) (fun c9 => ?_) (fun c9 => ?_)
      · have hf := gn hf c9
        refine g_aload_n E 0 dX8_mark_36 rfl rfl ?_
        refine g_get (C := RX8) (T := TX8) (N := 7) (ci := 8) E 0 1 (.ref (k.2.2.2.1 2)) hi_X8_mark_X8 (cwG0 _ _) rfl (by decide) hk_X8_mark_19 rfl dX8_mark_37 ?_
        refine g_get (C := RX4) (T := TX4) (N := 6) (ci := 4) E 2 1 (.ref (k.2.2.2.1 15)) hi_X8_mark_X4 (cwG2 _ _) rfl (by decide) hk_X8_mark_83 rfl dX8_mark_40 ?_
        refine g_iload_n E 2 dX8_mark_43 rfl rfl ?_
        obtain ⟨hi10, hf⟩ := gd hf
        refine g_iald E 15 (q7.2.1 15) (cwG15 _ _) hi10 dX8_mark_44 ?_
        refine g_iload_n E 1 dX8_mark_45 rfl rfl ?_
        refine g_icmp_ne (tgt := 52) E dX8_mark_46 (by decide) (fun c11 => ?_) (fun c11 => ?_)
        · have hf := gn hf c11
          refine g_aload_n E 0 dX8_mark_52 rfl rfl ?_
          refine g_get (C := RX8) (T := TX8) (N := 7) (ci := 8) E 0 2 (.ref (k.2.2.2.1 3)) hi_X8_mark_X8 (cwG0 _ _) rfl (by decide) hk_X8_mark_26 rfl dX8_mark_53 ?_
          refine g_get (C := RX1) (T := TX1) (N := 2) (ci := 1) E 3 0 (.ref (k.2.2.2.1 19)) hi_X8_mark_X1 (cwG3 _ _) rfl (by decide) hk_X8_mark_87 rfl dX8_mark_56 ?_
          refine g_iload_n E 1 dX8_mark_59 rfl rfl ?_
          refine g_bipush (v := (6 : Int32)) E dX8_mark_60 (by decide) ?_
          refine g_imul E dX8_mark_62 ?_
          refine g_iload_n E 2 dX8_mark_63 rfl rfl ?_
          refine g_iadd E dX8_mark_64 ?_
          refine g_iload_n E 3 dX8_mark_65 rfl rfl ?_
          refine g_iconst (v := (-1 : Int32)) E dX8_mark_66 (by decide) ?_
          refine g_icmp_ne (tgt := 75) E dX8_mark_67 (by decide) (fun c12 => ?_) (fun c12 => ?_)
          · have hf := gn hf c12
            refine g_iload_n E 3 dX8_mark_75 rfl rfl ?_
            exact g_sub [] rfl (fX8_mark_w76 E q7.2 (((x1 * (6 : Int32))) + x2) x3 r hf)
          · have hf := gp hf c12
            refine g_bipush (v := (-6 : Int32)) E dX8_mark_70 (by decide) ?_
            refine g_goto (tgt := 76) E dX8_mark_72 (by decide) ?_
            exact g_sub [] rfl (fX8_mark_w76 E q7.2 (((x1 * (6 : Int32))) + x2) (-6 : Int32) r hf)
        · have hf := gp hf c11
          refine g_bipush (v := (-5 : Int32)) E dX8_mark_49 (by decide) ?_
          have hf := Option.some.inj hf
          subst hf
          exact g_iret E dX8_mark_51
      · have hf := gp hf c9
        refine g_bipush (v := (-2 : Int32)) E dX8_mark_33 (by decide) ?_
        have hf := Option.some.inj hf
        subst hf
        exact g_iret E dX8_mark_35
    · have hf := gp hf c6
      refine g_iconst (v := (-1 : Int32)) E dX8_mark_22 (by decide) ?_
      have hf := Option.some.inj hf
      subst hf
      exact g_iret E dX8_mark_23
def rm_fX8_replace_12 : Room := { frames := 0, cells := 0, slots := 0, locals := 0 }
set_option maxHeartbeats 4000000 in
set_option maxRecDepth 100000 in
theorem fX8_replace_12_c (k : gK) (σ : St) (x1 : Int32) (x2 : Int32) (r : Int32 × St) (hf : fX8_replace_12 σ x1 x2 = some r) : MC k yX8_replace wsX8_replace rm_fX8_replace_12 [.ref (k.2.2.2.1 12), .int x1, .int x2] (cw k.2.2.2 σ) (some (.int r.1)) (cw k.2.2.2 r.2) := by
  refine MC_of (cc := cX8_replace) (maxL := 4) (ret := (some .int)) (own := RX8) (lvs := [(0, .ref (k.2.2.2.1 12)), (1, .int x1), (2, .int x2)]) (by decide) rfl rfl (Nat.le_of_ble_eq_true rfl) rfl (fun X E => ?_)
  unfold fX8_replace_12 at hf
  refine g_aload_n E 0 dX8_replace_0 rfl rfl ?_
  refine g_iload_n E 1 dX8_replace_1 rfl rfl ?_
  obtain ⟨hi1, hf⟩ := gd hf
  refine g_iald E 12 (σ.1 12) (cwG12 _ _) hi1 dX8_replace_2 ?_
  refine g_istore_n E [(3, .int (σ.1 12 x1.toNatClampNeg)), (0, .ref (k.2.2.2.1 12)), (1, .int x1), (2, .int x2)] dX8_replace_3 rfl (by decide) rfl ?_
  refine g_aload_n E 1 dX8_replace_4 rfl rfl ?_
  refine g_iload_n E 2 dX8_replace_5 rfl rfl ?_
  refine g_iload_n E 3 dX8_replace_6 rfl rfl ?_
  obtain ⟨hi2, hf⟩ := gd hf
  refine g_iast E 12 (cw k.2.2.2 (uA σ 12 x1.toNatClampNeg x2)) (σ.1 12) (cwG12 _ _) hi2 (cwA12 _ _ _ _) dX8_replace_7 ?_
  refine g_iload_n E 0 dX8_replace_8 rfl rfl ?_
  have hf := Option.some.inj hf
  subst hf
  exact g_iret E dX8_replace_9
def rm_fX8_setKeys_12 : Room := { frames := 1, cells := 0, slots := 0, locals := 23 }
set_option maxHeartbeats 4000000 in
set_option maxRecDepth 100000 in
theorem fX8_setKeys_12_c (k : gK) (σ : St) (x1 : Int32) (x2 : Int32) (x3 : Int32) (r : Int32 × St) (hf : fX8_setKeys_12 σ x1 x2 x3 = some r) : MC k yX8_setKeys wsX8_setKeys rm_fX8_setKeys_12 [.ref (k.2.2.2.1 12), .int x1, .int x2, .int x3] (cw k.2.2.2 σ) (some (.int r.1)) (cw k.2.2.2 r.2) := by
  refine MC_of (cc := cX8_setKeys) (maxL := 4) (ret := (some .int)) (own := RX8) (lvs := [(0, .ref (k.2.2.2.1 12)), (1, .int x1), (2, .int x2), (3, .int x3)]) (by decide) rfl rfl (Nat.le_of_ble_eq_true rfl) rfl (fun X E => ?_)
  unfold fX8_setKeys_12 at hf
  refine g_iload_n E 1 dX8_setKeys_0 rfl rfl ?_
  refine g_if_ne (tgt := 6) E dX8_setKeys_1 (by decide) (fun c1 => ?_) (fun c1 => ?_)
  · have hf := gn hf c1
    refine g_iload_n E 3 dX8_setKeys_6 rfl rfl ?_
    refine g_iconst (v := (0 : Int32)) E dX8_setKeys_7 (by decide) ?_
    refine g_bipush (v := (63 : Int32)) E dX8_setKeys_8 (by decide) ?_
    obtain ⟨q2, hq3, hf⟩ := gb hf
    refine g_callS (As := [.int x3, .int (0 : Int32), .int (63 : Int32)]) (rest := []) (n := 3) E (fX8_within_c k σ x3 (0 : Int32) (63 : Int32) q2 hq3) gX8_setKeys_X8_within rfl rfl rfl (by decide +kernel) ⟨Nat.le_of_ble_eq_true rfl, Nat.le_of_ble_eq_true rfl⟩ rfl rfl (Nat.le_of_ble_eq_true rfl) dX8_setKeys_10 ?_
    refine g_if_eq (tgt := 25) E dX8_setKeys_13 (by decide) (fun c4 => ?_) (fun c4 => ?_)
    · have hf := gp hf c4
      refine g_bipush (v := (-2 : Int32)) E dX8_setKeys_25 (by decide) ?_
      have hf := Option.some.inj hf
      subst hf
      exact g_iret E dX8_setKeys_27
    · have hf := gn hf c4
      refine g_aload_n E 0 dX8_setKeys_16 rfl rfl ?_
      refine g_iload_n E 2 dX8_setKeys_17 rfl rfl ?_
      refine g_iload_n E 3 dX8_setKeys_18 rfl rfl ?_
      obtain ⟨q5, hq6, hf⟩ := gb hf
      refine g_callS (As := [.ref (k.2.2.2.1 12), .int x2, .int x3]) (rest := []) (n := 3) E (fX8_replace_12_c k q2.2 x2 x3 q5 hq6) gX8_setKeys_X8_replace rfl rfl rfl (by decide +kernel) ⟨Nat.le_of_ble_eq_true rfl, Nat.le_of_ble_eq_true rfl⟩ rfl rfl (Nat.le_of_ble_eq_true rfl) dX8_setKeys_19 ?_
      refine g_goto (tgt := 27) E dX8_setKeys_22 (by decide) ?_
      have hf := Option.some.inj hf
      subst hf
      exact g_iret E dX8_setKeys_27
  · have hf := gp hf c1
    refine g_iconst (v := (-1 : Int32)) E dX8_setKeys_4 (by decide) ?_
    have hf := Option.some.inj hf
    subst hf
    exact g_iret E dX8_setKeys_5
def rm_fX8_replace_16 : Room := { frames := 0, cells := 0, slots := 0, locals := 0 }
set_option maxHeartbeats 4000000 in
set_option maxRecDepth 100000 in
theorem fX8_replace_16_c (k : gK) (σ : St) (x1 : Int32) (x2 : Int32) (r : Int32 × St) (hf : fX8_replace_16 σ x1 x2 = some r) : MC k yX8_replace wsX8_replace rm_fX8_replace_16 [.ref (k.2.2.2.1 16), .int x1, .int x2] (cw k.2.2.2 σ) (some (.int r.1)) (cw k.2.2.2 r.2) := by
  refine MC_of (cc := cX8_replace) (maxL := 4) (ret := (some .int)) (own := RX8) (lvs := [(0, .ref (k.2.2.2.1 16)), (1, .int x1), (2, .int x2)]) (by decide) rfl rfl (Nat.le_of_ble_eq_true rfl) rfl (fun X E => ?_)
  unfold fX8_replace_16 at hf
  refine g_aload_n E 0 dX8_replace_0 rfl rfl ?_
  refine g_iload_n E 1 dX8_replace_1 rfl rfl ?_
  obtain ⟨hi1, hf⟩ := gd hf
  refine g_iald E 16 (σ.1 16) (cwG16 _ _) hi1 dX8_replace_2 ?_
  refine g_istore_n E [(3, .int (σ.1 16 x1.toNatClampNeg)), (0, .ref (k.2.2.2.1 16)), (1, .int x1), (2, .int x2)] dX8_replace_3 rfl (by decide) rfl ?_
  refine g_aload_n E 1 dX8_replace_4 rfl rfl ?_
  refine g_iload_n E 2 dX8_replace_5 rfl rfl ?_
  refine g_iload_n E 3 dX8_replace_6 rfl rfl ?_
  obtain ⟨hi2, hf⟩ := gd hf
  refine g_iast E 16 (cw k.2.2.2 (uA σ 16 x1.toNatClampNeg x2)) (σ.1 16) (cwG16 _ _) hi2 (cwA16 _ _ _ _) dX8_replace_7 ?_
  refine g_iload_n E 0 dX8_replace_8 rfl rfl ?_
  have hf := Option.some.inj hf
  subst hf
  exact g_iret E dX8_replace_9
def rm_fX8_setKeys_16 : Room := { frames := 1, cells := 0, slots := 0, locals := 23 }
set_option maxHeartbeats 4000000 in
set_option maxRecDepth 100000 in
theorem fX8_setKeys_16_c (k : gK) (σ : St) (x1 : Int32) (x2 : Int32) (x3 : Int32) (r : Int32 × St) (hf : fX8_setKeys_16 σ x1 x2 x3 = some r) : MC k yX8_setKeys wsX8_setKeys rm_fX8_setKeys_16 [.ref (k.2.2.2.1 16), .int x1, .int x2, .int x3] (cw k.2.2.2 σ) (some (.int r.1)) (cw k.2.2.2 r.2) := by
  refine MC_of (cc := cX8_setKeys) (maxL := 4) (ret := (some .int)) (own := RX8) (lvs := [(0, .ref (k.2.2.2.1 16)), (1, .int x1), (2, .int x2), (3, .int x3)]) (by decide) rfl rfl (Nat.le_of_ble_eq_true rfl) rfl (fun X E => ?_)
  unfold fX8_setKeys_16 at hf
  refine g_iload_n E 1 dX8_setKeys_0 rfl rfl ?_
  refine g_if_ne (tgt := 6) E dX8_setKeys_1 (by decide) (fun c1 => ?_) (fun c1 => ?_)
  · have hf := gn hf c1
    refine g_iload_n E 3 dX8_setKeys_6 rfl rfl ?_
    refine g_iconst (v := (0 : Int32)) E dX8_setKeys_7 (by decide) ?_
    refine g_bipush (v := (63 : Int32)) E dX8_setKeys_8 (by decide) ?_
    obtain ⟨q2, hq3, hf⟩ := gb hf
    refine g_callS (As := [.int x3, .int (0 : Int32), .int (63 : Int32)]) (rest := []) (n := 3) E (fX8_within_c k σ x3 (0 : Int32) (63 : Int32) q2 hq3) gX8_setKeys_X8_within rfl rfl rfl (by decide +kernel) ⟨Nat.le_of_ble_eq_true rfl, Nat.le_of_ble_eq_true rfl⟩ rfl rfl (Nat.le_of_ble_eq_true rfl) dX8_setKeys_10 ?_
    refine g_if_eq (tgt := 25) E dX8_setKeys_13 (by decide) (fun c4 => ?_) (fun c4 => ?_)
    · have hf := gp hf c4
      refine g_bipush (v := (-2 : Int32)) E dX8_setKeys_25 (by decide) ?_
      have hf := Option.some.inj hf
      subst hf
      exact g_iret E dX8_setKeys_27
    · have hf := gn hf c4
      refine g_aload_n E 0 dX8_setKeys_16 rfl rfl ?_
      refine g_iload_n E 2 dX8_setKeys_17 rfl rfl ?_
      refine g_iload_n E 3 dX8_setKeys_18 rfl rfl ?_
      obtain ⟨q5, hq6, hf⟩ := gb hf
      refine g_callS (As := [.ref (k.2.2.2.1 16), .int x2, .int x3]) (rest := []) (n := 3) E (fX8_replace_16_c k q2.2 x2 x3 q5 hq6) gX8_setKeys_X8_replace rfl rfl rfl (by decide +kernel) ⟨Nat.le_of_ble_eq_true rfl, Nat.le_of_ble_eq_true rfl⟩ rfl rfl (Nat.le_of_ble_eq_true rfl) dX8_setKeys_19 ?_
      refine g_goto (tgt := 27) E dX8_setKeys_22 (by decide) ?_
      have hf := Option.some.inj hf
      subst hf
      exact g_iret E dX8_setKeys_27
  · have hf := gp hf c1
    refine g_iconst (v := (-1 : Int32)) E dX8_setKeys_4 (by decide) ?_
    have hf := Option.some.inj hf
    subst hf
    exact g_iret E dX8_setKeys_5
def rm_fX8_replace_17 : Room := { frames := 0, cells := 0, slots := 0, locals := 0 }
set_option maxHeartbeats 4000000 in
set_option maxRecDepth 100000 in
theorem fX8_replace_17_c (k : gK) (σ : St) (x1 : Int32) (x2 : Int32) (r : Int32 × St) (hf : fX8_replace_17 σ x1 x2 = some r) : MC k yX8_replace wsX8_replace rm_fX8_replace_17 [.ref (k.2.2.2.1 17), .int x1, .int x2] (cw k.2.2.2 σ) (some (.int r.1)) (cw k.2.2.2 r.2) := by
  refine MC_of (cc := cX8_replace) (maxL := 4) (ret := (some .int)) (own := RX8) (lvs := [(0, .ref (k.2.2.2.1 17)), (1, .int x1), (2, .int x2)]) (by decide) rfl rfl (Nat.le_of_ble_eq_true rfl) rfl (fun X E => ?_)
  unfold fX8_replace_17 at hf
  refine g_aload_n E 0 dX8_replace_0 rfl rfl ?_
  refine g_iload_n E 1 dX8_replace_1 rfl rfl ?_
  obtain ⟨hi1, hf⟩ := gd hf
  refine g_iald E 17 (σ.1 17) (cwG17 _ _) hi1 dX8_replace_2 ?_
  refine g_istore_n E [(3, .int (σ.1 17 x1.toNatClampNeg)), (0, .ref (k.2.2.2.1 17)), (1, .int x1), (2, .int x2)] dX8_replace_3 rfl (by decide) rfl ?_
  refine g_aload_n E 1 dX8_replace_4 rfl rfl ?_
  refine g_iload_n E 2 dX8_replace_5 rfl rfl ?_
  refine g_iload_n E 3 dX8_replace_6 rfl rfl ?_
  obtain ⟨hi2, hf⟩ := gd hf
  refine g_iast E 17 (cw k.2.2.2 (uA σ 17 x1.toNatClampNeg x2)) (σ.1 17) (cwG17 _ _) hi2 (cwA17 _ _ _ _) dX8_replace_7 ?_
  refine g_iload_n E 0 dX8_replace_8 rfl rfl ?_
  have hf := Option.some.inj hf
  subst hf
  exact g_iret E dX8_replace_9
theorem hi_X8_setLater_X8 : ∀ w ∈ wsX80, w ∈ wsX8_setLater := by decide +kernel
theorem hi_X8_setLater_X4 : ∀ w ∈ wsX40, w ∈ wsX8_setLater := by decide +kernel
theorem hk_X8_setLater_19 : Cond.fieldLink RX8 19 "PaperMarks" "papers" "LPaperMarks$Papers;" ∈ wsX8_setLater := by decide +kernel
theorem hk_X8_setLater_105 : Cond.fieldLink RX8 105 "PaperMarks$Papers" "laters" "[I" ∈ wsX8_setLater := by decide +kernel
def rm_fX8_setLater : Room := { frames := 1, cells := 0, slots := 0, locals := 23 }
set_option maxHeartbeats 4000000 in
set_option maxRecDepth 100000 in
theorem fX8_setLater_w45 {k : gK} {X : gX} (E : gE k X cX8_setLater RX8 wsX8_setLater 3 (some .int) rm_fX8_setLater) (σ : St) (t1 : Int32) (t2 : Int32) (r : Int32 × St) (hf : fX8_setLater_b45 σ t1 t2 = some r) : G k X 3 (some (.int r.1)) (cw k.2.2.2 r.2) (cw k.2.2.2 σ) [] [.int t2, .int t1, .ref (k.2.2.2.1 17)] 45 := by
  unfold fX8_setLater_b45 at hf
  obtain ⟨q1, hq2, hf⟩ := gb hf
  refine g_callS (As := [.ref (k.2.2.2.1 17), .int t1, .int t2]) (rest := []) (n := 3) E (fX8_replace_17_c k σ t1 t2 q1 hq2) gX8_setLater_X8_replace rfl rfl rfl (by decide +kernel) ⟨Nat.le_of_ble_eq_true rfl, Nat.le_of_ble_eq_true rfl⟩ rfl rfl (Nat.le_of_ble_eq_true rfl) dX8_setLater_45 ?_
  have hf := Option.some.inj hf
  subst hf
  exact g_iret E dX8_setLater_48
set_option maxHeartbeats 4000000 in
set_option maxRecDepth 100000 in
theorem fX8_setLater_c (k : gK) (σ : St) (x1 : Int32) (x2 : Int32) (r : Int32 × St) (hf : fX8_setLater σ x1 x2 = some r) : MC k yX8_setLater wsX8_setLater rm_fX8_setLater [.ref (k.2.2.2.1 0), .int x1, .int x2] (cw k.2.2.2 σ) (some (.int r.1)) (cw k.2.2.2 r.2) := by
  refine MC_of (cc := cX8_setLater) (maxL := 3) (ret := (some .int)) (own := RX8) (lvs := [(0, .ref (k.2.2.2.1 0)), (1, .int x1), (2, .int x2)]) (by decide) rfl rfl (Nat.le_of_ble_eq_true rfl) rfl (fun X E => ?_)
  unfold fX8_setLater at hf
  refine g_aload_n E 0 dX8_setLater_0 rfl rfl ?_
  refine g_get (C := RX8) (T := TX8) (N := 7) (ci := 8) E 0 1 (.ref (k.2.2.2.1 2)) hi_X8_setLater_X8 (cwG0 _ _) rfl (by decide) hk_X8_setLater_19 rfl dX8_setLater_1 ?_
  refine g_iload_n E 1 dX8_setLater_4 rfl rfl ?_
  obtain ⟨q1, hq2, hf⟩ := gb hf
  refine g_callV (C := RX4) (T := TX4) (N := 6) (ci := 4) (As := [.int x1]) (rest := []) (n := 1) E 2 (fX4_has_c k σ x1 q1 hq2) gX8_setLater_X4_has rfl rfl rfl (by decide +kernel) ⟨Nat.le_of_ble_eq_true rfl, Nat.le_of_ble_eq_true rfl⟩ rfl rfl (Nat.le_of_ble_eq_true rfl) rfl (cwG2 _ _) dX8_setLater_5 ?_
  refine g_if_ne (tgt := 13) E dX8_setLater_8 (by decide) (fun c3 => ?_) (fun c3 => ?_)
  · have hf := gn hf c3
    refine g_iload_n E 2 dX8_setLater_13 rfl rfl ?_
    refine g_iconst (v := (-1 : Int32)) E dX8_setLater_14 (by decide) ?_
    refine g_bipush (v := (9 : Int32)) E dX8_setLater_15 (by decide) ?_
    obtain ⟨q4, hq5, hf⟩ := gb hf
    refine g_callS (As := [.int x2, .int (-1 : Int32), .int (9 : Int32)]) (rest := []) (n := 3) E (fX8_within_c k q1.2 x2 (-1 : Int32) (9 : Int32) q4 hq5) gX8_setLater_X8_within rfl rfl rfl (by decide +kernel) ⟨Nat.le_of_ble_eq_true rfl, Nat.le_of_ble_eq_true rfl⟩ rfl rfl (Nat.le_of_ble_eq_true rfl) dX8_setLater_17 ?_
    refine g_if_ne (tgt := 26) E dX8_setLater_20 (by decide) (fun c6 => ?_) (fun c6 => ?_)
    · have hf := gn hf c6
      refine g_aload_n E 0 dX8_setLater_26 rfl rfl ?_
      refine g_get (C := RX8) (T := TX8) (N := 7) (ci := 8) E 0 1 (.ref (k.2.2.2.1 2)) hi_X8_setLater_X8 (cwG0 _ _) rfl (by decide) hk_X8_setLater_19 rfl dX8_setLater_27 ?_
      refine g_get (C := RX4) (T := TX4) (N := 6) (ci := 4) E 2 3 (.ref (k.2.2.2.1 17)) hi_X8_setLater_X4 (cwG2 _ _) rfl (by decide) hk_X8_setLater_105 rfl dX8_setLater_30 ?_
      refine g_iload_n E 1 dX8_setLater_33 rfl rfl ?_
      refine g_iload_n E 2 dX8_setLater_34 rfl rfl ?_
      refine g_iconst (v := (-1 : Int32)) E dX8_setLater_35 (by decide) ?_
      refine g_icmp_ne (tgt := 44) E dX8_setLater_36 (by decide) (fun c7 => ?_) (fun c7 => ?_)
      · have hf := gn hf c7
        refine g_iload_n E 2 dX8_setLater_44 rfl rfl ?_
        exact g_sub [] rfl (fX8_setLater_w45 E q4.2 x1 x2 r hf)
      · have hf := gp hf c7
        refine g_bipush (v := (-6 : Int32)) E dX8_setLater_39 (by decide) ?_
        refine g_goto (tgt := 45) E dX8_setLater_41 (by decide) ?_
        exact g_sub [] rfl (fX8_setLater_w45 E q4.2 x1 (-6 : Int32) r hf)
    · have hf := gp hf c6
      refine g_bipush (v := (-2 : Int32)) E dX8_setLater_23 (by decide) ?_
      have hf := Option.some.inj hf
      subst hf
      exact g_iret E dX8_setLater_25
  · have hf := gp hf c3
    refine g_iconst (v := (-1 : Int32)) E dX8_setLater_11 (by decide) ?_
    have hf := Option.some.inj hf
    subst hf
    exact g_iret E dX8_setLater_12
theorem hi_X8_set_X8 : ∀ w ∈ wsX80, w ∈ wsX8_set := by decide +kernel
theorem hi_X8_set_X0 : ∀ w ∈ wsX00, w ∈ wsX8_set := by decide +kernel
theorem hi_X8_set_X4 : ∀ w ∈ wsX40, w ∈ wsX8_set := by decide +kernel
theorem hk_X8_set_10 : Cond.fieldLink RX8 10 "PaperMarks" "judges" "LPaperMarks$Judges;" ∈ wsX8_set := by decide +kernel
theorem hk_X8_set_94 : Cond.fieldLink RX8 94 "PaperMarks$Judges" "keys" "[I" ∈ wsX8_set := by decide +kernel
theorem hk_X8_set_19 : Cond.fieldLink RX8 19 "PaperMarks" "papers" "LPaperMarks$Papers;" ∈ wsX8_set := by decide +kernel
theorem hk_X8_set_101 : Cond.fieldLink RX8 101 "PaperMarks$Papers" "keys" "[I" ∈ wsX8_set := by decide +kernel
def rm_fX8_set : Room := { frames := 2, cells := 0, slots := 0, locals := 46 }
set_option maxHeartbeats 4000000 in
set_option maxRecDepth 100000 in
theorem fX8_set_c (k : gK) (σ : St) (x1 : Int32) (x2 : Int32) (x3 : Int32) (r : Int32 × St) (hf : fX8_set σ x1 x2 x3 = some r) : MC k yX8_set wsX8_set rm_fX8_set [.ref (k.2.2.2.1 0), .int x1, .int x2, .int x3] (cw k.2.2.2 σ) (some (.int r.1)) (cw k.2.2.2 r.2) := by
  refine MC_of (cc := cX8_set) (maxL := 4) (ret := (some .int)) (own := RX8) (lvs := [(0, .ref (k.2.2.2.1 0)), (1, .int x1), (2, .int x2), (3, .int x3)]) (by decide) rfl rfl (Nat.le_of_ble_eq_true rfl) rfl (fun X E => ?_)
  unfold fX8_set at hf
  refine g_iload_n E 1 dX8_set_0 rfl rfl ?_
  by_cases c1 : x1 = (0 : Int32)
  · have hf := gp hf c1
    refine g_tabIn (tgt := 28) (off := 27) E (0 : Int32) c1 dX8_set_1 (by decide) (by decide) (by decide) (by decide) ?_
    refine g_aload_n E 0 dX8_set_28 rfl rfl ?_
    refine g_get (C := RX8) (T := TX8) (N := 7) (ci := 8) E 0 0 (.ref (k.2.2.2.1 1)) hi_X8_set_X8 (cwG0 _ _) rfl (by decide) hk_X8_set_10 rfl dX8_set_29 ?_
    refine g_get (C := RX0) (T := TX0) (N := 5) (ci := 0) E 1 2 (.ref (k.2.2.2.1 12)) hi_X8_set_X0 (cwG1 _ _) rfl (by decide) hk_X8_set_94 rfl dX8_set_32 ?_
    refine g_aload_n E 0 dX8_set_35 rfl rfl ?_
    refine g_get (C := RX8) (T := TX8) (N := 7) (ci := 8) E 0 0 (.ref (k.2.2.2.1 1)) hi_X8_set_X8 (cwG0 _ _) rfl (by decide) hk_X8_set_10 rfl dX8_set_36 ?_
    refine g_iload_n E 2 dX8_set_39 rfl rfl ?_
    obtain ⟨q2, hq3, hf⟩ := gb hf
    refine g_callV (C := RX0) (T := TX0) (N := 5) (ci := 0) (As := [.int x2]) (rest := [.ref (k.2.2.2.1 12)]) (n := 1) E 1 (fX0_has_c k σ x2 q2 hq3) gX8_set_X0_has rfl rfl rfl (by decide +kernel) ⟨Nat.le_of_ble_eq_true rfl, Nat.le_of_ble_eq_true rfl⟩ rfl rfl (Nat.le_of_ble_eq_true rfl) rfl (cwG1 _ _) dX8_set_40 ?_
    refine g_iload_n E 2 dX8_set_43 rfl rfl ?_
    refine g_iload_n E 3 dX8_set_44 rfl rfl ?_
    obtain ⟨q4, hq5, hf⟩ := gb hf
    refine g_callS (As := [.ref (k.2.2.2.1 12), .int q2.1, .int x2, .int x3]) (rest := []) (n := 4) E (fX8_setKeys_12_c k q2.2 q2.1 x2 x3 q4 hq5) gX8_set_X8_setKeys rfl rfl rfl (by decide +kernel) ⟨Nat.le_of_ble_eq_true rfl, Nat.le_of_ble_eq_true rfl⟩ rfl rfl (Nat.le_of_ble_eq_true rfl) dX8_set_45 ?_
    have hf := Option.some.inj hf
    subst hf
    exact g_iret E dX8_set_48
  · have hf := gn hf c1
    by_cases c6 : x1 = (1 : Int32)
    · have hf := gp hf c6
      refine g_tabIn (tgt := 49) (off := 48) E (1 : Int32) c6 dX8_set_1 (by decide) (by decide) (by decide) (by decide) ?_
      refine g_aload_n E 0 dX8_set_49 rfl rfl ?_
      refine g_get (C := RX8) (T := TX8) (N := 7) (ci := 8) E 0 1 (.ref (k.2.2.2.1 2)) hi_X8_set_X8 (cwG0 _ _) rfl (by decide) hk_X8_set_19 rfl dX8_set_50 ?_
      refine g_get (C := RX4) (T := TX4) (N := 6) (ci := 4) E 2 2 (.ref (k.2.2.2.1 16)) hi_X8_set_X4 (cwG2 _ _) rfl (by decide) hk_X8_set_101 rfl dX8_set_53 ?_
      refine g_aload_n E 0 dX8_set_56 rfl rfl ?_
      refine g_get (C := RX8) (T := TX8) (N := 7) (ci := 8) E 0 1 (.ref (k.2.2.2.1 2)) hi_X8_set_X8 (cwG0 _ _) rfl (by decide) hk_X8_set_19 rfl dX8_set_57 ?_
      refine g_iload_n E 2 dX8_set_60 rfl rfl ?_
      obtain ⟨q7, hq8, hf⟩ := gb hf
      refine g_callV (C := RX4) (T := TX4) (N := 6) (ci := 4) (As := [.int x2]) (rest := [.ref (k.2.2.2.1 16)]) (n := 1) E 2 (fX4_has_c k σ x2 q7 hq8) gX8_set_X4_has rfl rfl rfl (by decide +kernel) ⟨Nat.le_of_ble_eq_true rfl, Nat.le_of_ble_eq_true rfl⟩ rfl rfl (Nat.le_of_ble_eq_true rfl) rfl (cwG2 _ _) dX8_set_61 ?_
      refine g_iload_n E 2 dX8_set_64 rfl rfl ?_
      refine g_iload_n E 3 dX8_set_65 rfl rfl ?_
      obtain ⟨q9, hq10, hf⟩ := gb hf
      refine g_callS (As := [.ref (k.2.2.2.1 16), .int q7.1, .int x2, .int x3]) (rest := []) (n := 4) E (fX8_setKeys_16_c k q7.2 q7.1 x2 x3 q9 hq10) gX8_set_X8_setKeys rfl rfl rfl (by decide +kernel) ⟨Nat.le_of_ble_eq_true rfl, Nat.le_of_ble_eq_true rfl⟩ rfl rfl (Nat.le_of_ble_eq_true rfl) dX8_set_66 ?_
      have hf := Option.some.inj hf
      subst hf
      exact g_iret E dX8_set_69
    · have hf := gn hf c6
      by_cases c11 : x1 = (2 : Int32)
      · have hf := gp hf c11
        refine g_tabIn (tgt := 70) (off := 69) E (2 : Int32) c11 dX8_set_1 (by decide) (by decide) (by decide) (by decide) ?_
        refine g_aload_n E 0 dX8_set_70 rfl rfl ?_
        refine g_iload_n E 2 dX8_set_71 rfl rfl ?_
        refine g_iload_n E 3 dX8_set_72 rfl rfl ?_
        obtain ⟨q12, hq13, hf⟩ := gb hf
        refine g_callV (C := RX8) (T := TX8) (N := 7) (ci := 8) (As := [.int x2, .int x3]) (rest := []) (n := 2) E 0 (fX8_setLater_c k σ x2 x3 q12 hq13) gX8_set_X8_setLater rfl rfl rfl (by decide +kernel) ⟨Nat.le_of_ble_eq_true rfl, Nat.le_of_ble_eq_true rfl⟩ rfl rfl (Nat.le_of_ble_eq_true rfl) rfl (cwG0 _ _) dX8_set_73 ?_
        have hf := Option.some.inj hf
        subst hf
        exact g_iret E dX8_set_76
      · have hf := gn hf c11
        have hout : (x1).toInt < 0 ∨ 2 < (x1).toInt := by
          have := lv_neT c1 (a := 0) rfl
          have := lv_neT c6 (a := 1) rfl
          have := lv_neT c11 (a := 2) rfl
          omega
        refine g_tabOut (tgt := 77) E dX8_set_1 hout (by decide) ?_
        refine g_bipush (v := (-2 : Int32)) E dX8_set_77 (by decide) ?_
        have hf := Option.some.inj hf
        subst hf
        exact g_iret E dX8_set_79
theorem hi_X6_add_X6 : ∀ w ∈ wsX60, w ∈ wsX6_add := by decide +kernel
theorem hk_X6_add_15 : Cond.fieldLink RX6 15 "PaperMarks$Signs" "count" "I" ∈ wsX6_add := by decide +kernel
theorem hk_X6_add_11 : Cond.fieldLink RX6 11 "PaperMarks$Signs" "signs" "[I" ∈ wsX6_add := by decide +kernel
def rm_fX6_add : Room := { frames := 0, cells := 0, slots := 0, locals := 0 }
set_option maxHeartbeats 4000000 in
set_option maxRecDepth 100000 in
theorem fX6_add_c (k : gK) (σ : St) (x1 : Int32) (r : Int32 × St) (hf : fX6_add σ x1 = some r) : MC k yX6_add wsX6_add rm_fX6_add [.ref (k.2.2.2.1 4), .int x1] (cw k.2.2.2 σ) (some (.int r.1)) (cw k.2.2.2 r.2) := by
  refine MC_of (cc := cX6_add) (maxL := 2) (ret := (some .int)) (own := RX6) (lvs := [(0, .ref (k.2.2.2.1 4)), (1, .int x1)]) (by decide) rfl rfl (Nat.le_of_ble_eq_true rfl) rfl (fun X E => ?_)
  unfold fX6_add at hf
  refine g_aload_n E 0 dX6_add_0 rfl rfl ?_
  refine g_get (C := RX6) (T := TX6) (N := 2) (ci := 6) E 4 1 (.int (σ.2.1 2)) hi_X6_add_X6 (cwG4 _ _) rfl (by decide) hk_X6_add_15 rfl dX6_add_1 ?_
  refine g_bipush (v := (40 : Int32)) E dX6_add_4 (by decide) ?_
  refine g_icmp_lt (tgt := 12) E dX6_add_6 (by decide) (fun c1 => ?_) (fun c1 => ?_)
  · have hf := gp hf c1
    refine g_aload_n E 0 dX6_add_12 rfl rfl ?_
    refine g_get (C := RX6) (T := TX6) (N := 2) (ci := 6) E 4 0 (.ref (k.2.2.2.1 21)) hi_X6_add_X6 (cwG4 _ _) rfl (by decide) hk_X6_add_11 rfl dX6_add_13 ?_
    refine g_aload_n E 0 dX6_add_16 rfl rfl ?_
    refine g_get (C := RX6) (T := TX6) (N := 2) (ci := 6) E 4 1 (.int (σ.2.1 2)) hi_X6_add_X6 (cwG4 _ _) rfl (by decide) hk_X6_add_15 rfl dX6_add_17 ?_
    refine g_iload_n E 1 dX6_add_20 rfl rfl ?_
    obtain ⟨hi2, hf⟩ := gd hf
    refine g_iast E 21 (cw k.2.2.2 (uA σ 21 (σ.2.1 2).toNatClampNeg x1)) (σ.1 21) (cwG21 _ _) hi2 (cwA21 _ _ _ _) dX6_add_21 ?_
    refine g_aload_n E 0 dX6_add_22 rfl rfl ?_
    refine g_dup E dX6_add_23 rfl ?_
    refine g_get (C := RX6) (T := TX6) (N := 2) (ci := 6) E 4 1 (.int (((uA σ 21 (σ.2.1 2).toNatClampNeg x1)).2.1 2)) hi_X6_add_X6 (cwG4 _ _) rfl (by decide) hk_X6_add_15 rfl dX6_add_24 ?_
    refine g_iconst (v := (1 : Int32)) E dX6_add_27 (by decide) ?_
    refine g_iadd E dX6_add_28 ?_
    refine g_put (C := RX6) (T := TX6) (N := 2) (ci := 6) E 4 1 (cw k.2.2.2 (uI ((uA σ 21 (σ.2.1 2).toNatClampNeg x1)) 2 ((((((uA σ 21 (σ.2.1 2).toNatClampNeg x1)).2.1 2)) + (1 : Int32))))) hi_X6_add_X6 tyX6 tyX6_ok nmX6 (cwG4 _ _) rfl (by decide) hk_X6_add_15 rfl (by decide +kernel) (Nat.le_of_ble_eq_true rfl) (cwI2 _ _ _) dX6_add_29 ?_
    refine g_aload_n E 0 dX6_add_32 rfl rfl ?_
    refine g_get (C := RX6) (T := TX6) (N := 2) (ci := 6) E 4 1 (.int (((uI ((uA σ 21 (σ.2.1 2).toNatClampNeg x1)) 2 ((((((uA σ 21 (σ.2.1 2).toNatClampNeg x1)).2.1 2)) + (1 : Int32))))).2.1 2)) hi_X6_add_X6 (cwG4 _ _) rfl (by decide) hk_X6_add_15 rfl dX6_add_33 ?_
    have hf := Option.some.inj hf
    subst hf
    exact g_iret E dX6_add_36
  · have hf := gn hf c1
    refine g_bipush (v := (-4 : Int32)) E dX6_add_9 (by decide) ?_
    have hf := Option.some.inj hf
    subst hf
    exact g_iret E dX6_add_11
theorem hi_X8_say_X8 : ∀ w ∈ wsX80, w ∈ wsX8_say := by decide +kernel
theorem hk_X8_say_33 : Cond.fieldLink RX8 33 "PaperMarks" "signs" "LPaperMarks$Signs;" ∈ wsX8_say := by decide +kernel
def rm_fX8_say : Room := { frames := 1, cells := 0, slots := 0, locals := 22 }
set_option maxHeartbeats 4000000 in
set_option maxRecDepth 100000 in
theorem fX8_say_c (k : gK) (σ : St) (x1 : Int32) (r : Int32 × St) (hf : fX8_say σ x1 = some r) : MC k yX8_say wsX8_say rm_fX8_say [.ref (k.2.2.2.1 0), .int x1] (cw k.2.2.2 σ) (some (.int r.1)) (cw k.2.2.2 r.2) := by
  refine MC_of (cc := cX8_say) (maxL := 2) (ret := (some .int)) (own := RX8) (lvs := [(0, .ref (k.2.2.2.1 0)), (1, .int x1)]) (by decide) rfl rfl (Nat.le_of_ble_eq_true rfl) rfl (fun X E => ?_)
  unfold fX8_say at hf
  refine g_iload_n E 1 dX8_say_0 rfl rfl ?_
  refine g_bipush (v := (33 : Int32)) E dX8_say_1 (by decide) ?_
  refine g_bipush (v := (126 : Int32)) E dX8_say_3 (by decide) ?_
  obtain ⟨q1, hq2, hf⟩ := gb hf
  refine g_callS (As := [.int x1, .int (33 : Int32), .int (126 : Int32)]) (rest := []) (n := 3) E (fX8_within_c k σ x1 (33 : Int32) (126 : Int32) q1 hq2) gX8_say_X8_within rfl rfl rfl (by decide +kernel) ⟨Nat.le_of_ble_eq_true rfl, Nat.le_of_ble_eq_true rfl⟩ rfl rfl (Nat.le_of_ble_eq_true rfl) dX8_say_5 ?_
  refine g_if_eq (tgt := 22) E dX8_say_8 (by decide) (fun c3 => ?_) (fun c3 => ?_)
  · have hf := gp hf c3
    refine g_bipush (v := (-2 : Int32)) E dX8_say_22 (by decide) ?_
    have hf := Option.some.inj hf
    subst hf
    exact g_iret E dX8_say_24
  · have hf := gn hf c3
    refine g_aload_n E 0 dX8_say_11 rfl rfl ?_
    refine g_get (C := RX8) (T := TX8) (N := 7) (ci := 8) E 0 3 (.ref (k.2.2.2.1 4)) hi_X8_say_X8 (cwG0 _ _) rfl (by decide) hk_X8_say_33 rfl dX8_say_12 ?_
    refine g_iload_n E 1 dX8_say_15 rfl rfl ?_
    obtain ⟨q4, hq5, hf⟩ := gb hf
    refine g_callV (C := RX6) (T := TX6) (N := 2) (ci := 6) (As := [.int x1]) (rest := []) (n := 1) E 4 (fX6_add_c k q1.2 x1 q4 hq5) gX8_say_X6_add rfl rfl rfl (by decide +kernel) ⟨Nat.le_of_ble_eq_true rfl, Nat.le_of_ble_eq_true rfl⟩ rfl rfl (Nat.le_of_ble_eq_true rfl) rfl (cwG4 _ _) dX8_say_16 ?_
    refine g_goto (tgt := 24) E dX8_say_19 (by decide) ?_
    have hf := Option.some.inj hf
    subst hf
    exact g_iret E dX8_say_24
theorem hi_X6_clear_X6 : ∀ w ∈ wsX60, w ∈ wsX6_clear := by decide +kernel
theorem hk_X6_clear_15 : Cond.fieldLink RX6 15 "PaperMarks$Signs" "count" "I" ∈ wsX6_clear := by decide +kernel
def rm_fX6_clear : Room := { frames := 0, cells := 0, slots := 0, locals := 0 }
set_option maxHeartbeats 4000000 in
set_option maxRecDepth 100000 in
theorem fX6_clear_c (k : gK) (σ : St) (r : Int32 × St) (hf : fX6_clear σ = some r) : MC k yX6_clear wsX6_clear rm_fX6_clear [.ref (k.2.2.2.1 4)] (cw k.2.2.2 σ) (some (.int r.1)) (cw k.2.2.2 r.2) := by
  refine MC_of (cc := cX6_clear) (maxL := 2) (ret := (some .int)) (own := RX6) (lvs := [(0, .ref (k.2.2.2.1 4))]) (by decide) rfl rfl (Nat.le_of_ble_eq_true rfl) rfl (fun X E => ?_)
  unfold fX6_clear at hf
  refine g_aload_n E 0 dX6_clear_0 rfl rfl ?_
  refine g_get (C := RX6) (T := TX6) (N := 2) (ci := 6) E 4 1 (.int (σ.2.1 2)) hi_X6_clear_X6 (cwG4 _ _) rfl (by decide) hk_X6_clear_15 rfl dX6_clear_1 ?_
  refine g_istore_n E [(1, .int (σ.2.1 2)), (0, .ref (k.2.2.2.1 4))] dX6_clear_4 rfl (by decide) rfl ?_
  refine g_aload_n E 1 dX6_clear_5 rfl rfl ?_
  refine g_iconst (v := (0 : Int32)) E dX6_clear_6 (by decide) ?_
  refine g_put (C := RX6) (T := TX6) (N := 2) (ci := 6) E 4 1 (cw k.2.2.2 (uI σ 2 (0 : Int32))) hi_X6_clear_X6 tyX6 tyX6_ok nmX6 (cwG4 _ _) rfl (by decide) hk_X6_clear_15 rfl (by decide +kernel) (Nat.le_of_ble_eq_true rfl) (cwI2 _ _ _) dX6_clear_7 ?_
  refine g_iload_n E 0 dX6_clear_10 rfl rfl ?_
  have hf := Option.some.inj hf
  subst hf
  exact g_iret E dX6_clear_11
theorem hi_X8_wipe_X8 : ∀ w ∈ wsX80, w ∈ wsX8_wipe := by decide +kernel
theorem hk_X8_wipe_33 : Cond.fieldLink RX8 33 "PaperMarks" "signs" "LPaperMarks$Signs;" ∈ wsX8_wipe := by decide +kernel
def rm_fX8_wipe : Room := { frames := 1, cells := 0, slots := 0, locals := 21 }
set_option maxHeartbeats 4000000 in
set_option maxRecDepth 100000 in
theorem fX8_wipe_c (k : gK) (σ : St) (r : Int32 × St) (hf : fX8_wipe σ = some r) : MC k yX8_wipe wsX8_wipe rm_fX8_wipe [.ref (k.2.2.2.1 0)] (cw k.2.2.2 σ) (some (.int r.1)) (cw k.2.2.2 r.2) := by
  refine MC_of (cc := cX8_wipe) (maxL := 1) (ret := (some .int)) (own := RX8) (lvs := [(0, .ref (k.2.2.2.1 0))]) (by decide) rfl rfl (Nat.le_of_ble_eq_true rfl) rfl (fun X E => ?_)
  unfold fX8_wipe at hf
  refine g_aload_n E 0 dX8_wipe_0 rfl rfl ?_
  refine g_get (C := RX8) (T := TX8) (N := 7) (ci := 8) E 0 3 (.ref (k.2.2.2.1 4)) hi_X8_wipe_X8 (cwG0 _ _) rfl (by decide) hk_X8_wipe_33 rfl dX8_wipe_1 ?_
  obtain ⟨q1, hq2, hf⟩ := gb hf
  refine g_callV (C := RX6) (T := TX6) (N := 2) (ci := 6) (As := []) (rest := []) (n := 0) E 4 (fX6_clear_c k σ  q1 hq2) gX8_wipe_X6_clear rfl rfl rfl (by decide +kernel) ⟨Nat.le_of_ble_eq_true rfl, Nat.le_of_ble_eq_true rfl⟩ rfl rfl (Nat.le_of_ble_eq_true rfl) rfl (cwG4 _ _) dX8_wipe_4 ?_
  have hf := Option.some.inj hf
  subst hf
  exact g_iret E dX8_wipe_7
def rm_fX6_mayEnd : Room := { frames := 0, cells := 0, slots := 0, locals := 0 }
set_option maxHeartbeats 4000000 in
set_option maxRecDepth 100000 in
theorem fX6_mayEnd_w16 {k : gK} {X : gX} (E : gE k X cX6_mayEnd RX6 wsX6_mayEnd 1 (some .boolean) rm_fX6_mayEnd) (σ : St) (r : Int32 × St) (hf : fX6_mayEnd_b16 σ = some r) : G k X 1 (some (.int r.1)) (cw k.2.2.2 r.2) (cw k.2.2.2 σ) [] [] 16 := by
  unfold fX6_mayEnd_b16 at hf
  refine g_iconst (v := (1 : Int32)) E dX6_mayEnd_16 (by decide) ?_
  refine g_goto (tgt := 21) E dX6_mayEnd_17 (by decide) ?_
  have hf := Option.some.inj hf
  subst hf
  exact g_zret E (Or.inr rfl) dX6_mayEnd_21
set_option maxHeartbeats 4000000 in
set_option maxRecDepth 100000 in
theorem fX6_mayEnd_c (k : gK) (σ : St) (x0 : Int32) (r : Int32 × St) (hf : fX6_mayEnd σ x0 = some r) : MC k yX6_mayEnd wsX6_mayEnd rm_fX6_mayEnd [.int x0] (cw k.2.2.2 σ) (some (.int r.1)) (cw k.2.2.2 r.2) := by
  refine MC_of (cc := cX6_mayEnd) (maxL := 1) (ret := (some .boolean)) (own := RX6) (lvs := [(0, .int x0)]) (by decide) rfl rfl (Nat.le_of_ble_eq_true rfl) rfl (fun X E => ?_)
  unfold fX6_mayEnd at hf
  refine g_iload_n E 0 dX6_mayEnd_0 rfl rfl ?_
  refine g_iconst (v := (3 : Int32)) E dX6_mayEnd_1 (by decide) ?_
  refine g_icmp_eq (tgt := 16) E dX6_mayEnd_2 (by decide) (fun c1 => ?_) (fun c1 => ?_)
  · have hf := gp hf c1
    exact g_sub [] rfl (fX6_mayEnd_w16 E σ r hf)
  · have hf := gn hf c1
    refine g_iload_n E 0 dX6_mayEnd_5 rfl rfl ?_
    refine g_iconst (v := (4 : Int32)) E dX6_mayEnd_6 (by decide) ?_
    refine g_icmp_eq (tgt := 16) E dX6_mayEnd_7 (by decide) (fun c2 => ?_) (fun c2 => ?_)
    · have hf := gp hf c2
      exact g_sub [] rfl (fX6_mayEnd_w16 E σ r hf)
    · have hf := gn hf c2
      refine g_iload_n E 0 dX6_mayEnd_10 rfl rfl ?_
      refine g_bipush (v := (6 : Int32)) E dX6_mayEnd_11 (by decide) ?_
      refine g_icmp_ne (tgt := 20) E dX6_mayEnd_13 (by decide) (fun c3 => ?_) (fun c3 => ?_)
      · have hf := gn hf c3
        refine g_iconst (v := (0 : Int32)) E dX6_mayEnd_20 (by decide) ?_
        have hf := Option.some.inj hf
        subst hf
        exact g_zret E (Or.inl rfl) dX6_mayEnd_21
      · have hf := gp hf c3
        exact g_sub [] rfl (fX6_mayEnd_w16 E σ r hf)
def rm_fX6_isDigit : Room := { frames := 0, cells := 0, slots := 0, locals := 0 }
set_option maxHeartbeats 4000000 in
set_option maxRecDepth 100000 in
theorem fX6_isDigit_c (k : gK) (σ : St) (x0 : Int32) (r : Int32 × St) (hf : fX6_isDigit σ x0 = some r) : MC k yX6_isDigit wsX6_isDigit rm_fX6_isDigit [.int x0] (cw k.2.2.2 σ) (some (.int r.1)) (cw k.2.2.2 r.2) := by
  refine MC_of (cc := cX6_isDigit) (maxL := 1) (ret := (some .boolean)) (own := RX6) (lvs := [(0, .int x0)]) (by decide) rfl rfl (Nat.le_of_ble_eq_true rfl) rfl (fun X E => ?_)
  unfold fX6_isDigit at hf
  refine g_iload_n E 0 dX6_isDigit_0 rfl rfl ?_
  refine g_bipush (v := (48 : Int32)) E dX6_isDigit_1 (by decide) ?_
  refine g_icmp_lt (tgt := 16) E dX6_isDigit_3 (by decide) (fun c1 => ?_) (fun c1 => ?_)
  · have hf := gp hf c1
    refine g_iconst (v := (0 : Int32)) E dX6_isDigit_16 (by decide) ?_
    have hf := Option.some.inj hf
    subst hf
    exact g_zret E (Or.inl rfl) dX6_isDigit_17
  · have hf := gn hf c1
    refine g_iload_n E 0 dX6_isDigit_6 rfl rfl ?_
    refine g_bipush (v := (57 : Int32)) E dX6_isDigit_7 (by decide) ?_
    refine g_icmp_gt (tgt := 16) E dX6_isDigit_9 (by decide) (fun c2 => ?_) (fun c2 => ?_)
    · have hf := gp hf c2
      refine g_iconst (v := (0 : Int32)) E dX6_isDigit_16 (by decide) ?_
      have hf := Option.some.inj hf
      subst hf
      exact g_zret E (Or.inl rfl) dX6_isDigit_17
    · have hf := gn hf c2
      refine g_iconst (v := (1 : Int32)) E dX6_isDigit_12 (by decide) ?_
      refine g_goto (tgt := 17) E dX6_isDigit_13 (by decide) ?_
      have hf := Option.some.inj hf
      subst hf
      exact g_zret E (Or.inr rfl) dX6_isDigit_17
def rm_fX6_afterNumber : Room := { frames := 0, cells := 0, slots := 0, locals := 0 }
set_option maxHeartbeats 4000000 in
set_option maxRecDepth 100000 in
theorem fX6_afterNumber_c (k : gK) (σ : St) (x0 : Int32) (r : Int32 × St) (hf : fX6_afterNumber σ x0 = some r) : MC k yX6_afterNumber wsX6_afterNumber rm_fX6_afterNumber [.int x0] (cw k.2.2.2 σ) (some (.int r.1)) (cw k.2.2.2 r.2) := by
  refine MC_of (cc := cX6_afterNumber) (maxL := 1) (ret := (some .int)) (own := RX6) (lvs := [(0, .int x0)]) (by decide) rfl rfl (Nat.le_of_ble_eq_true rfl) rfl (fun X E => ?_)
  unfold fX6_afterNumber at hf
  refine g_iload_n E 0 dX6_afterNumber_0 rfl rfl ?_
  refine g_bipush (v := (63 : Int32)) E dX6_afterNumber_1 (by decide) ?_
  refine g_icmp_ne (tgt := 8) E dX6_afterNumber_3 (by decide) (fun c1 => ?_) (fun c1 => ?_)
  · have hf := gn hf c1
    refine g_iload_n E 0 dX6_afterNumber_8 rfl rfl ?_
    refine g_bipush (v := (59 : Int32)) E dX6_afterNumber_9 (by decide) ?_
    refine g_icmp_ne (tgt := 18) E dX6_afterNumber_11 (by decide) (fun c2 => ?_) (fun c2 => ?_)
    · have hf := gn hf c2
      refine g_iconst (v := (-1 : Int32)) E dX6_afterNumber_18 (by decide) ?_
      have hf := Option.some.inj hf
      subst hf
      exact g_iret E dX6_afterNumber_19
    · have hf := gp hf c2
      refine g_iconst (v := (0 : Int32)) E dX6_afterNumber_14 (by decide) ?_
      refine g_goto (tgt := 19) E dX6_afterNumber_15 (by decide) ?_
      have hf := Option.some.inj hf
      subst hf
      exact g_iret E dX6_afterNumber_19
  · have hf := gp hf c1
    refine g_iconst (v := (5 : Int32)) E dX6_afterNumber_6 (by decide) ?_
    have hf := Option.some.inj hf
    subst hf
    exact g_iret E dX6_afterNumber_7
def rm_fX6_after : Room := { frames := 1, cells := 0, slots := 0, locals := 20 }
set_option maxHeartbeats 4000000 in
set_option maxRecDepth 100000 in
theorem fX6_after_w68 {k : gK} {X : gX} (E : gE k X cX6_after RX6 wsX6_after 2 (some .int) rm_fX6_after) (σ : St) (r : Int32 × St) (hf : fX6_after_b68 σ = some r) : G k X 2 (some (.int r.1)) (cw k.2.2.2 r.2) (cw k.2.2.2 σ) [] [] 68 := by
  unfold fX6_after_b68 at hf
  refine g_iconst (v := (1 : Int32)) E dX6_after_68 (by decide) ?_
  refine g_goto (tgt := 73) E dX6_after_69 (by decide) ?_
  have hf := Option.some.inj hf
  subst hf
  exact g_iret E dX6_after_73
set_option maxHeartbeats 4000000 in
set_option maxRecDepth 100000 in
theorem fX6_after_c (k : gK) (σ : St) (x0 : Int32) (x1 : Int32) (r : Int32 × St) (hf : fX6_after σ x0 x1 = some r) : MC k yX6_after wsX6_after rm_fX6_after [.int x0, .int x1] (cw k.2.2.2 σ) (some (.int r.1)) (cw k.2.2.2 r.2) := by
  refine MC_of (cc := cX6_after) (maxL := 2) (ret := (some .int)) (own := RX6) (lvs := [(0, .int x0), (1, .int x1)]) (by decide) rfl rfl (Nat.le_of_ble_eq_true rfl) rfl (fun X E => ?_)
  unfold fX6_after at hf
  refine g_iload_n E 0 dX6_after_0 rfl rfl ?_
  by_cases c1 : x0 = (0 : Int32)
  · have hf := gp hf c1
    refine g_tabIn (tgt := 44) (off := 43) E (0 : Int32) c1 dX6_after_1 (by decide) (by decide) (by decide) (by decide) ?_
    refine g_iload_n E 1 dX6_after_44 rfl rfl ?_
    refine g_bipush (v := (97 : Int32)) E dX6_after_45 (by decide) ?_
    refine g_icmp_eq (tgt := 68) E dX6_after_47 (by decide) (fun c2 => ?_) (fun c2 => ?_)
    · have hf := gp hf c2
      exact g_sub [] rfl (fX6_after_w68 E σ r hf)
    · have hf := gn hf c2
      refine g_iload_n E 1 dX6_after_50 rfl rfl ?_
      refine g_bipush (v := (109 : Int32)) E dX6_after_51 (by decide) ?_
      refine g_icmp_eq (tgt := 68) E dX6_after_53 (by decide) (fun c3 => ?_) (fun c3 => ?_)
      · have hf := gp hf c3
        exact g_sub [] rfl (fX6_after_w68 E σ r hf)
      · have hf := gn hf c3
        refine g_iload_n E 1 dX6_after_56 rfl rfl ?_
        refine g_bipush (v := (108 : Int32)) E dX6_after_57 (by decide) ?_
        refine g_icmp_eq (tgt := 68) E dX6_after_59 (by decide) (fun c4 => ?_) (fun c4 => ?_)
        · have hf := gp hf c4
          exact g_sub [] rfl (fX6_after_w68 E σ r hf)
        · have hf := gn hf c4
          refine g_iload_n E 1 dX6_after_62 rfl rfl ?_
          refine g_bipush (v := (103 : Int32)) E dX6_after_63 (by decide) ?_
          refine g_icmp_ne (tgt := 72) E dX6_after_65 (by decide) (fun c5 => ?_) (fun c5 => ?_)
          · have hf := gn hf c5
            refine g_iconst (v := (-1 : Int32)) E dX6_after_72 (by decide) ?_
            have hf := Option.some.inj hf
            subst hf
            exact g_iret E dX6_after_73
          · have hf := gp hf c5
            exact g_sub [] rfl (fX6_after_w68 E σ r hf)
  · have hf := gn hf c1
    by_cases c6 : x0 = (1 : Int32)
    · have hf := gp hf c6
      refine g_tabIn (tgt := 74) (off := 73) E (1 : Int32) c6 dX6_after_1 (by decide) (by decide) (by decide) (by decide) ?_
      refine g_iload_n E 1 dX6_after_74 rfl rfl ?_
      refine g_bipush (v := (62 : Int32)) E dX6_after_75 (by decide) ?_
      refine g_icmp_ne (tgt := 84) E dX6_after_77 (by decide) (fun c7 => ?_) (fun c7 => ?_)
      · have hf := gn hf c7
        refine g_iconst (v := (-1 : Int32)) E dX6_after_84 (by decide) ?_
        have hf := Option.some.inj hf
        subst hf
        exact g_iret E dX6_after_85
      · have hf := gp hf c7
        refine g_iconst (v := (2 : Int32)) E dX6_after_80 (by decide) ?_
        refine g_goto (tgt := 85) E dX6_after_81 (by decide) ?_
        have hf := Option.some.inj hf
        subst hf
        exact g_iret E dX6_after_85
    · have hf := gn hf c6
      by_cases c8 : x0 = (2 : Int32)
      · have hf := gp hf c8
        refine g_tabIn (tgt := 86) (off := 85) E (2 : Int32) c8 dX6_after_1 (by decide) (by decide) (by decide) (by decide) ?_
        refine g_iload_n E 1 dX6_after_86 rfl rfl ?_
        obtain ⟨q9, hq10, hf⟩ := gb hf
        refine g_callS (As := [.int x1]) (rest := []) (n := 1) E (fX6_isDigit_c k σ x1 q9 hq10) gX6_after_X6_isDigit rfl rfl rfl (by decide +kernel) ⟨Nat.le_of_ble_eq_true rfl, Nat.le_of_ble_eq_true rfl⟩ rfl rfl (Nat.le_of_ble_eq_true rfl) dX6_after_87 ?_
        refine g_if_eq (tgt := 97) E dX6_after_90 (by decide) (fun c11 => ?_) (fun c11 => ?_)
        · have hf := gp hf c11
          refine g_iconst (v := (-1 : Int32)) E dX6_after_97 (by decide) ?_
          have hf := Option.some.inj hf
          subst hf
          exact g_iret E dX6_after_98
        · have hf := gn hf c11
          refine g_iconst (v := (3 : Int32)) E dX6_after_93 (by decide) ?_
          refine g_goto (tgt := 98) E dX6_after_94 (by decide) ?_
          have hf := Option.some.inj hf
          subst hf
          exact g_iret E dX6_after_98
      · have hf := gn hf c8
        by_cases c12 : x0 = (3 : Int32)
        · have hf := gp hf c12
          refine g_tabIn (tgt := 99) (off := 98) E (3 : Int32) c12 dX6_after_1 (by decide) (by decide) (by decide) (by decide) ?_
          refine g_iload_n E 1 dX6_after_99 rfl rfl ?_
          obtain ⟨q13, hq14, hf⟩ := gb hf
          refine g_callS (As := [.int x1]) (rest := []) (n := 1) E (fX6_isDigit_c k σ x1 q13 hq14) gX6_after_X6_isDigit rfl rfl rfl (by decide +kernel) ⟨Nat.le_of_ble_eq_true rfl, Nat.le_of_ble_eq_true rfl⟩ rfl rfl (Nat.le_of_ble_eq_true rfl) dX6_after_100 ?_
          refine g_if_eq (tgt := 110) E dX6_after_103 (by decide) (fun c15 => ?_) (fun c15 => ?_)
          · have hf := gp hf c15
            refine g_iload_n E 1 dX6_after_110 rfl rfl ?_
            obtain ⟨q16, hq17, hf⟩ := gb hf
            refine g_callS (As := [.int x1]) (rest := []) (n := 1) E (fX6_afterNumber_c k q13.2 x1 q16 hq17) gX6_after_X6_afterNumber rfl rfl rfl (by decide +kernel) ⟨Nat.le_of_ble_eq_true rfl, Nat.le_of_ble_eq_true rfl⟩ rfl rfl (Nat.le_of_ble_eq_true rfl) dX6_after_111 ?_
            have hf := Option.some.inj hf
            subst hf
            exact g_iret E dX6_after_114
          · have hf := gn hf c15
            refine g_iconst (v := (4 : Int32)) E dX6_after_106 (by decide) ?_
            refine g_goto (tgt := 114) E dX6_after_107 (by decide) ?_
            have hf := Option.some.inj hf
            subst hf
            exact g_iret E dX6_after_114
        · have hf := gn hf c12
          by_cases c18 : x0 = (4 : Int32)
          · have hf := gp hf c18
            refine g_tabIn (tgt := 115) (off := 114) E (4 : Int32) c18 dX6_after_1 (by decide) (by decide) (by decide) (by decide) ?_
            refine g_iload_n E 1 dX6_after_115 rfl rfl ?_
            obtain ⟨q19, hq20, hf⟩ := gb hf
            refine g_callS (As := [.int x1]) (rest := []) (n := 1) E (fX6_afterNumber_c k σ x1 q19 hq20) gX6_after_X6_afterNumber rfl rfl rfl (by decide +kernel) ⟨Nat.le_of_ble_eq_true rfl, Nat.le_of_ble_eq_true rfl⟩ rfl rfl (Nat.le_of_ble_eq_true rfl) dX6_after_116 ?_
            have hf := Option.some.inj hf
            subst hf
            exact g_iret E dX6_after_119
          · have hf := gn hf c18
            by_cases c21 : x0 = (5 : Int32)
            · have hf := gp hf c21
              refine g_tabIn (tgt := 120) (off := 119) E (5 : Int32) c21 dX6_after_1 (by decide) (by decide) (by decide) (by decide) ?_
              refine g_iload_n E 1 dX6_after_120 rfl rfl ?_
              refine g_bipush (v := (49 : Int32)) E dX6_after_121 (by decide) ?_
              refine g_icmp_lt (tgt := 137) E dX6_after_123 (by decide) (fun c22 => ?_) (fun c22 => ?_)
              · have hf := gp hf c22
                refine g_iconst (v := (-1 : Int32)) E dX6_after_137 (by decide) ?_
                have hf := Option.some.inj hf
                subst hf
                exact g_iret E dX6_after_138
              · have hf := gn hf c22
                refine g_iload_n E 1 dX6_after_126 rfl rfl ?_
                refine g_bipush (v := (51 : Int32)) E dX6_after_127 (by decide) ?_
                refine g_icmp_gt (tgt := 137) E dX6_after_129 (by decide) (fun c23 => ?_) (fun c23 => ?_)
                · have hf := gp hf c23
                  refine g_iconst (v := (-1 : Int32)) E dX6_after_137 (by decide) ?_
                  have hf := Option.some.inj hf
                  subst hf
                  exact g_iret E dX6_after_138
                · have hf := gn hf c23
                  refine g_bipush (v := (6 : Int32)) E dX6_after_132 (by decide) ?_
                  refine g_goto (tgt := 138) E dX6_after_134 (by decide) ?_
                  have hf := Option.some.inj hf
                  subst hf
                  exact g_iret E dX6_after_138
            · have hf := gn hf c21
              by_cases c24 : x0 = (6 : Int32)
              · have hf := gp hf c24
                refine g_tabIn (tgt := 139) (off := 138) E (6 : Int32) c24 dX6_after_1 (by decide) (by decide) (by decide) (by decide) ?_
                refine g_iload_n E 1 dX6_after_139 rfl rfl ?_
                refine g_bipush (v := (59 : Int32)) E dX6_after_140 (by decide) ?_
                refine g_icmp_ne (tgt := 149) E dX6_after_142 (by decide) (fun c25 => ?_) (fun c25 => ?_)
                · have hf := gn hf c25
                  refine g_iconst (v := (-1 : Int32)) E dX6_after_149 (by decide) ?_
                  have hf := Option.some.inj hf
                  subst hf
                  exact g_iret E dX6_after_150
                · have hf := gp hf c25
                  refine g_iconst (v := (0 : Int32)) E dX6_after_145 (by decide) ?_
                  refine g_goto (tgt := 150) E dX6_after_146 (by decide) ?_
                  have hf := Option.some.inj hf
                  subst hf
                  exact g_iret E dX6_after_150
              · have hf := gn hf c24
                have hout : (x0).toInt < 0 ∨ 6 < (x0).toInt := by
                  have := lv_neT c1 (a := 0) rfl
                  have := lv_neT c6 (a := 1) rfl
                  have := lv_neT c8 (a := 2) rfl
                  have := lv_neT c12 (a := 3) rfl
                  have := lv_neT c18 (a := 4) rfl
                  have := lv_neT c21 (a := 5) rfl
                  have := lv_neT c24 (a := 6) rfl
                  omega
                refine g_tabOut (tgt := 151) E dX6_after_1 hout (by decide) ?_
                refine g_iconst (v := (-1 : Int32)) E dX6_after_151 (by decide) ?_
                have hf := Option.some.inj hf
                subst hf
                exact g_iret E dX6_after_152
theorem hi_X6_firstFault_X6 : ∀ w ∈ wsX60, w ∈ wsX6_firstFault := by decide +kernel
theorem hk_X6_firstFault_15 : Cond.fieldLink RX6 15 "PaperMarks$Signs" "count" "I" ∈ wsX6_firstFault := by decide +kernel
theorem hk_X6_firstFault_11 : Cond.fieldLink RX6 11 "PaperMarks$Signs" "signs" "[I" ∈ wsX6_firstFault := by decide +kernel
def rm_fX6_firstFault : Room := { frames := 2, cells := 0, slots := 0, locals := 41 }
set_option maxHeartbeats 4000000 in
set_option maxRecDepth 100000 in
theorem fX6_firstFault_w4 {k : gK} {X : gX} (E : gE k X cX6_firstFault RX6 wsX6_firstFault 3 (some .int) rm_fX6_firstFault) (rc4 : St → Int32 → Int32 → Option (Int32 × St)) (hrc4 : ∀ (σ : St) (x1 : Int32) (x2 : Int32) (r : Int32 × St), rc4 σ x1 x2 = some r → G k X 3 (some (.int r.1)) (cw k.2.2.2 r.2) (cw k.2.2.2 σ) [(0, .ref (k.2.2.2.1 4)), (1, .int x1), (2, .int x2)] [] 4) (σ : St) (x1 : Int32) (x2 : Int32) (r : Int32 × St) (hf : fX6_firstFault_b4 rc4 σ x1 x2 = some r) : G k X 3 (some (.int r.1)) (cw k.2.2.2 r.2) (cw k.2.2.2 σ) [(0, .ref (k.2.2.2.1 4)), (1, .int x1), (2, .int x2)] [] 4 := by
  unfold fX6_firstFault_b4 at hf
  refine g_iload_n E 2 dX6_firstFault_4 rfl rfl ?_
  refine g_aload_n E 0 dX6_firstFault_5 rfl rfl ?_
  refine g_get (C := RX6) (T := TX6) (N := 2) (ci := 6) E 4 1 (.int (σ.2.1 2)) hi_X6_firstFault_X6 (cwG4 _ _) rfl (by decide) hk_X6_firstFault_15 rfl dX6_firstFault_6 ?_
  refine g_icmp_ge (tgt := 36) E dX6_firstFault_9 (by decide) (fun c1 => ?_) (fun c1 => ?_)
  · have hf := gp hf c1
    refine g_iload_n E 1 dX6_firstFault_36 rfl rfl ?_
    obtain ⟨q2, hq3, hf⟩ := gb hf
    refine g_callS (As := [.int x1]) (rest := []) (n := 1) E (fX6_mayEnd_c k σ x1 q2 hq3) gX6_firstFault_X6_mayEnd rfl rfl rfl (by decide +kernel) ⟨Nat.le_of_ble_eq_true rfl, Nat.le_of_ble_eq_true rfl⟩ rfl rfl (Nat.le_of_ble_eq_true rfl) dX6_firstFault_37 ?_
    refine g_if_eq (tgt := 48) E dX6_firstFault_40 (by decide) (fun c4 => ?_) (fun c4 => ?_)
    · have hf := gp hf c4
      refine g_aload_n E 0 dX6_firstFault_48 rfl rfl ?_
      refine g_get (C := RX6) (T := TX6) (N := 2) (ci := 6) E 4 1 (.int (q2.2.2.1 2)) hi_X6_firstFault_X6 (cwG4 _ _) rfl (by decide) hk_X6_firstFault_15 rfl dX6_firstFault_49 ?_
      have hf := Option.some.inj hf
      subst hf
      exact g_iret E dX6_firstFault_52
    · have hf := gn hf c4
      refine g_bipush (v := (-6 : Int32)) E dX6_firstFault_43 (by decide) ?_
      refine g_goto (tgt := 52) E dX6_firstFault_45 (by decide) ?_
      have hf := Option.some.inj hf
      subst hf
      exact g_iret E dX6_firstFault_52
  · have hf := gn hf c1
    refine g_iload_n E 1 dX6_firstFault_12 rfl rfl ?_
    refine g_aload_n E 0 dX6_firstFault_13 rfl rfl ?_
    refine g_get (C := RX6) (T := TX6) (N := 2) (ci := 6) E 4 0 (.ref (k.2.2.2.1 21)) hi_X6_firstFault_X6 (cwG4 _ _) rfl (by decide) hk_X6_firstFault_11 rfl dX6_firstFault_14 ?_
    refine g_iload_n E 2 dX6_firstFault_17 rfl rfl ?_
    obtain ⟨hi5, hf⟩ := gd hf
    refine g_iald E 21 (σ.1 21) (cwG21 _ _) hi5 dX6_firstFault_18 ?_
    obtain ⟨q6, hq7, hf⟩ := gb hf
    refine g_callS (As := [.int x1, .int (σ.1 21 x2.toNatClampNeg)]) (rest := []) (n := 2) E (fX6_after_c k σ x1 (σ.1 21 x2.toNatClampNeg) q6 hq7) gX6_firstFault_X6_after rfl rfl rfl (by decide +kernel) ⟨Nat.le_of_ble_eq_true rfl, Nat.le_of_ble_eq_true rfl⟩ rfl rfl (Nat.le_of_ble_eq_true rfl) dX6_firstFault_19 ?_
    refine g_istore_n E [(1, .int q6.1), (0, .ref (k.2.2.2.1 4)), (2, .int x2)] dX6_firstFault_22 rfl (by decide) rfl ?_
    refine g_iload_n E 0 dX6_firstFault_23 rfl rfl ?_
    refine g_iconst (v := (-1 : Int32)) E dX6_firstFault_24 (by decide) ?_
    refine g_icmp_ne (tgt := 30) E dX6_firstFault_25 (by decide) (fun c8 => ?_) (fun c8 => ?_)
    · have hf := gn hf c8
      refine g_iinc E 2 [(2, .int (x2 + (1 : Int32))), (1, .int q6.1), (0, .ref (k.2.2.2.1 4))] (x2 + (1 : Int32)) dX6_firstFault_30 rfl (by rfl) (by decide) rfl ?_
      refine g_goto (tgt := 4) E dX6_firstFault_33 (by decide) ?_
      exact g_sub [2, 1, 0] rfl (hrc4 q6.2 q6.1 (x2 + (1 : Int32)) r hf)
    · have hf := gp hf c8
      refine g_iload_n E 2 dX6_firstFault_28 rfl rfl ?_
      have hf := Option.some.inj hf
      subst hf
      exact g_iret E dX6_firstFault_29
theorem fX6_firstFault_v4 {k : gK} {X : gX} (E : gE k X cX6_firstFault RX6 wsX6_firstFault 3 (some .int) rm_fX6_firstFault) : ∀ (n : Nat) (σ : St) (x1 : Int32) (x2 : Int32) (r : Int32 × St), fX6_firstFault_l4 n σ x1 x2 = some r → G k X 3 (some (.int r.1)) (cw k.2.2.2 r.2) (cw k.2.2.2 σ) [(0, .ref (k.2.2.2.1 4)), (1, .int x1), (2, .int x2)] [] 4 := by
  intro n
  induction n with
  | zero => intro σ x1 x2 r hf; cases hf
  | succ n ih => intro σ x1 x2 r hf; exact fX6_firstFault_w4 E (fX6_firstFault_l4 n) ih σ x1 x2 r hf
set_option maxHeartbeats 4000000 in
set_option maxRecDepth 100000 in
theorem fX6_firstFault_c (k : gK) (σ : St) (r : Int32 × St) (hf : fX6_firstFault σ = some r) : MC k yX6_firstFault wsX6_firstFault rm_fX6_firstFault [.ref (k.2.2.2.1 4)] (cw k.2.2.2 σ) (some (.int r.1)) (cw k.2.2.2 r.2) := by
  refine MC_of (cc := cX6_firstFault) (maxL := 3) (ret := (some .int)) (own := RX6) (lvs := [(0, .ref (k.2.2.2.1 4))]) (by decide) rfl rfl (Nat.le_of_ble_eq_true rfl) rfl (fun X E => ?_)
  unfold fX6_firstFault at hf
  refine g_iconst (v := (0 : Int32)) E dX6_firstFault_0 (by decide) ?_
  refine g_istore_n E [(1, .int (0 : Int32)), (0, .ref (k.2.2.2.1 4))] dX6_firstFault_1 rfl (by decide) rfl ?_
  refine g_iconst (v := (0 : Int32)) E dX6_firstFault_2 (by decide) ?_
  refine g_istore_n E [(2, .int (0 : Int32)), (1, .int (0 : Int32)), (0, .ref (k.2.2.2.1 4))] dX6_firstFault_3 rfl (by decide) rfl ?_
  exact g_sub [2, 1, 0] rfl (fX6_firstFault_v4 E gF σ (0 : Int32) (0 : Int32) r hf)
theorem hi_X8_fault_X8 : ∀ w ∈ wsX80, w ∈ wsX8_fault := by decide +kernel
theorem hk_X8_fault_33 : Cond.fieldLink RX8 33 "PaperMarks" "signs" "LPaperMarks$Signs;" ∈ wsX8_fault := by decide +kernel
def rm_fX8_fault : Room := { frames := 3, cells := 0, slots := 0, locals := 63 }
set_option maxHeartbeats 4000000 in
set_option maxRecDepth 100000 in
theorem fX8_fault_c (k : gK) (σ : St) (r : Int32 × St) (hf : fX8_fault σ = some r) : MC k yX8_fault wsX8_fault rm_fX8_fault [.ref (k.2.2.2.1 0)] (cw k.2.2.2 σ) (some (.int r.1)) (cw k.2.2.2 r.2) := by
  refine MC_of (cc := cX8_fault) (maxL := 1) (ret := (some .int)) (own := RX8) (lvs := [(0, .ref (k.2.2.2.1 0))]) (by decide) rfl rfl (Nat.le_of_ble_eq_true rfl) rfl (fun X E => ?_)
  unfold fX8_fault at hf
  refine g_aload_n E 0 dX8_fault_0 rfl rfl ?_
  refine g_get (C := RX8) (T := TX8) (N := 7) (ci := 8) E 0 3 (.ref (k.2.2.2.1 4)) hi_X8_fault_X8 (cwG0 _ _) rfl (by decide) hk_X8_fault_33 rfl dX8_fault_1 ?_
  obtain ⟨q1, hq2, hf⟩ := gb hf
  refine g_callV (C := RX6) (T := TX6) (N := 2) (ci := 6) (As := []) (rest := []) (n := 0) E 4 (fX6_firstFault_c k σ  q1 hq2) gX8_fault_X6_firstFault rfl rfl rfl (by decide +kernel) ⟨Nat.le_of_ble_eq_true rfl, Nat.le_of_ble_eq_true rfl⟩ rfl rfl (Nat.le_of_ble_eq_true rfl) rfl (cwG4 _ _) dX8_fault_4 ?_
  have hf := Option.some.inj hf
  subst hf
  exact g_iret E dX8_fault_7
