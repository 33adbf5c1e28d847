def rm_fX8_within : Room := { frames := 0, cells := 0, slots := 0, locals := 0 }
set_option maxHeartbeats 4000000 in
set_option maxRecDepth 100000 in
theorem fX8_within_c (k : gK) (σ : St) (x0 : Int32) (x1 : Int32) (x2 : Int32) (r : Int32 × St) (hf : fX8_within σ x0 x1 x2 = some r) : MC k yX8_within wsX8_within rm_fX8_within [.int x0, .int x1, .int x2] (cw k.2.2.2 σ) (some (.int r.1)) (cw k.2.2.2 r.2) := by
  refine MC_of (cc := cX8_within) (maxL := 3) (ret := (some .boolean)) (own := RX8) (lvs := [(0, .int x0), (1, .int x1), (2, .int x2)]) (by decide) rfl rfl (Nat.le_of_ble_eq_true rfl) rfl (fun X E => ?_)
  unfold fX8_within at hf
  refine g_iload_n E 0 dX8_within_0 rfl rfl ?_
  refine g_iload_n E 1 dX8_within_1 rfl rfl ?_
  refine g_icmp_lt (tgt := 14) E dX8_within_2 (by decide) (fun c1 => ?_) (fun c1 => ?_)
  · have hf := gp hf c1
    refine g_iconst (v := (0 : Int32)) E dX8_within_14 (by decide) ?_
    cases hf
    exact g_zret E (Or.inl rfl) dX8_within_15
  · have hf := gn hf c1
    refine g_iload_n E 0 dX8_within_5 rfl rfl ?_
    refine g_iload_n E 2 dX8_within_6 rfl rfl ?_
    refine g_icmp_gt (tgt := 14) E dX8_within_7 (by decide) (fun c2 => ?_) (fun c2 => ?_)
    · have hf := gp hf c2
      refine g_iconst (v := (0 : Int32)) E dX8_within_14 (by decide) ?_
      cases hf
      exact g_zret E (Or.inl rfl) dX8_within_15
    · have hf := gn hf c2
      refine g_iconst (v := (1 : Int32)) E dX8_within_10 (by decide) ?_
      refine g_goto (tgt := 15) E dX8_within_11 (by decide) ?_
      cases hf
      exact g_zret E (Or.inr rfl) dX8_within_15
theorem hi_X0_add_X0 : ∀ w ∈ wsX00, w ∈ wsX0_add := by decide +kernel
theorem hk_X0_add_24 : Cond.fieldLink RX0 24 "PaperMarks$Judges" "count" "I" ∈ wsX0_add := by decide +kernel
theorem hk_X0_add_9 : Cond.fieldLink RX0 9 "PaperMarks$Judges" "leans" "[I" ∈ wsX0_add := by decide +kernel
theorem hk_X0_add_15 : Cond.fieldLink RX0 15 "PaperMarks$Judges" "slips" "[I" ∈ wsX0_add := by decide +kernel
def rm_fX0_add : Room := { frames := 0, cells := 0, slots := 0, locals := 0 }
set_option maxHeartbeats 4000000 in
set_option maxRecDepth 100000 in
theorem fX0_add_c (k : gK) (σ : St) (x1 : Int32) (x2 : Int32) (r : Int32 × St) (hf : fX0_add σ x1 x2 = some r) : MC k yX0_add wsX0_add rm_fX0_add [.ref (k.2.2.2.1 1), .int x1, .int x2] (cw k.2.2.2 σ) (some (.int r.1)) (cw k.2.2.2 r.2) := by
  refine MC_of (cc := cX0_add) (maxL := 3) (ret := (some .int)) (own := RX0) (lvs := [(0, .ref (k.2.2.2.1 1)), (1, .int x1), (2, .int x2)]) (by decide) rfl rfl (Nat.le_of_ble_eq_true rfl) rfl (fun X E => ?_)
  unfold fX0_add at hf
  refine g_aload_n E 0 dX0_add_0 rfl rfl ?_
  refine g_get (C := RX0) (T := TX0) (N := 5) (ci := 0) E 1 4 (.int (σ.2.1 0)) hi_X0_add_X0 (cwG1 _ _) rfl (by decide) hk_X0_add_24 rfl dX0_add_1 ?_
  refine g_bipush (v := (6 : Int32)) E dX0_add_4 (by decide) ?_
  refine g_icmp_lt (tgt := 12) E dX0_add_6 (by decide) (fun c1 => ?_) (fun c1 => ?_)
  · have hf := gp hf c1
    refine g_aload_n E 0 dX0_add_12 rfl rfl ?_
    refine g_get (C := RX0) (T := TX0) (N := 5) (ci := 0) E 1 0 (.ref (k.2.2.2.1 10)) hi_X0_add_X0 (cwG1 _ _) rfl (by decide) hk_X0_add_9 rfl dX0_add_13 ?_
    refine g_aload_n E 0 dX0_add_16 rfl rfl ?_
    refine g_get (C := RX0) (T := TX0) (N := 5) (ci := 0) E 1 4 (.int (σ.2.1 0)) hi_X0_add_X0 (cwG1 _ _) rfl (by decide) hk_X0_add_24 rfl dX0_add_17 ?_
    refine g_iload_n E 1 dX0_add_20 rfl rfl ?_
    obtain ⟨hi2, hf⟩ := gd hf
    refine g_iast E 10 (cw k.2.2.2 (uA σ 10 (σ.2.1 0).toNatClampNeg x1)) (σ.1 10) (cwG10 _ _) hi2 (cwA10 _ _ _ _) dX0_add_21 ?_
    refine g_aload_n E 0 dX0_add_22 rfl rfl ?_
    refine g_get (C := RX0) (T := TX0) (N := 5) (ci := 0) E 1 1 (.ref (k.2.2.2.1 11)) hi_X0_add_X0 (cwG1 _ _) rfl (by decide) hk_X0_add_15 rfl dX0_add_23 ?_
    refine g_aload_n E 0 dX0_add_26 rfl rfl ?_
    refine g_get (C := RX0) (T := TX0) (N := 5) (ci := 0) E 1 4 (.int (((uA σ 10 (σ.2.1 0).toNatClampNeg x1)).2.1 0)) hi_X0_add_X0 (cwG1 _ _) rfl (by decide) hk_X0_add_24 rfl dX0_add_27 ?_
    refine g_iload_n E 2 dX0_add_30 rfl rfl ?_
    obtain ⟨hi3, hf⟩ := gd hf
    refine g_iast E 11 (cw k.2.2.2 (uA ((uA σ 10 (σ.2.1 0).toNatClampNeg x1)) 11 ((((uA σ 10 (σ.2.1 0).toNatClampNeg x1)).2.1 0)).toNatClampNeg x2)) (((uA σ 10 (σ.2.1 0).toNatClampNeg x1)).1 11) (cwG11 _ _) hi3 (cwA11 _ _ _ _) dX0_add_31 ?_
    refine g_aload_n E 0 dX0_add_32 rfl rfl ?_
    refine g_dup E dX0_add_33 rfl ?_
    refine g_get (C := RX0) (T := TX0) (N := 5) (ci := 0) E 1 4 (.int (((uA ((uA σ 10 (σ.2.1 0).toNatClampNeg x1)) 11 ((((uA σ 10 (σ.2.1 0).toNatClampNeg x1)).2.1 0)).toNatClampNeg x2)).2.1 0)) hi_X0_add_X0 (cwG1 _ _) rfl (by decide) hk_X0_add_24 rfl dX0_add_34 ?_
    refine g_dup_x1 E dX0_add_37 rfl rfl ?_
    refine g_iconst (v := (1 : Int32)) E dX0_add_38 (by decide) ?_
    refine g_iadd E dX0_add_39 ?_
    refine g_put (C := RX0) (T := TX0) (N := 5) (ci := 0) E 1 4 (cw k.2.2.2 (uI ((uA ((uA σ 10 (σ.2.1 0).toNatClampNeg x1)) 11 ((((uA σ 10 (σ.2.1 0).toNatClampNeg x1)).2.1 0)).toNatClampNeg x2)) 0 ((((((uA ((uA σ 10 (σ.2.1 0).toNatClampNeg x1)) 11 ((((uA σ 10 (σ.2.1 0).toNatClampNeg x1)).2.1 0)).toNatClampNeg x2)).2.1 0)) + (1 : Int32))))) hi_X0_add_X0 tyX0 tyX0_ok nmX0 (cwG1 _ _) rfl (by decide) hk_X0_add_24 rfl (by decide +kernel) (Nat.le_of_ble_eq_true rfl) (cwI0 _ _ _) dX0_add_40 ?_
    cases hf
    exact g_iret E dX0_add_43
  · have hf := gn hf c1
    refine g_bipush (v := (-4 : Int32)) E dX0_add_9 (by decide) ?_
    cases hf
    exact g_iret E dX0_add_11
theorem hi_X8_judge_X8 : ∀ w ∈ wsX80, w ∈ wsX8_judge := by decide +kernel
theorem hk_X8_judge_10 : Cond.fieldLink RX8 10 "PaperMarks" "judges" "LPaperMarks$Judges;" ∈ wsX8_judge := by decide +kernel
def rm_fX8_judge : Room := { frames := 1, cells := 0, slots := 0, locals := 22 }
set_option maxHeartbeats 4000000 in
set_option maxRecDepth 100000 in
theorem fX8_judge_c (k : gK) (σ : St) (x1 : Int32) (x2 : Int32) (r : Int32 × St) (hf : fX8_judge σ x1 x2 = some r) : MC k yX8_judge wsX8_judge rm_fX8_judge [.ref (k.2.2.2.1 0), .int x1, .int x2] (cw k.2.2.2 σ) (some (.int r.1)) (cw k.2.2.2 r.2) := by
  refine MC_of (cc := cX8_judge) (maxL := 3) (ret := (some .int)) (own := RX8) (lvs := [(0, .ref (k.2.2.2.1 0)), (1, .int x1), (2, .int x2)]) (by decide) rfl rfl (Nat.le_of_ble_eq_true rfl) rfl (fun X E => ?_)
  unfold fX8_judge at hf
  refine g_iload_n E 1 dX8_judge_0 rfl rfl ?_
  refine g_bipush (v := (-2 : Int32)) E dX8_judge_1 (by decide) ?_
  refine g_iconst (v := (2 : Int32)) E dX8_judge_3 (by decide) ?_
  obtain ⟨q1, hq2, hf⟩ := gb hf
  refine g_callS (As := [.int x1, .int (-2 : Int32), .int (2 : Int32)]) (rest := []) (n := 3) E (fX8_within_c k σ x1 (-2 : Int32) (2 : Int32) q1 hq2) gX8_judge_X8_within rfl rfl rfl (by decide +kernel) ⟨Nat.le_of_ble_eq_true rfl, Nat.le_of_ble_eq_true rfl⟩ rfl rfl (Nat.le_of_ble_eq_true rfl) dX8_judge_4 ?_
  refine g_if_eq (tgt := 19) E dX8_judge_7 (by decide) (fun c3 => ?_) (fun c3 => ?_)
  · have hf := gp hf c3
    refine g_bipush (v := (-2 : Int32)) E dX8_judge_19 (by decide) ?_
    cases hf
    exact g_iret E dX8_judge_21
  · have hf := gn hf c3
    refine g_iload_n E 2 dX8_judge_10 rfl rfl ?_
    refine g_iconst (v := (0 : Int32)) E dX8_judge_11 (by decide) ?_
    refine g_iconst (v := (2 : Int32)) E dX8_judge_12 (by decide) ?_
    obtain ⟨q4, hq5, hf⟩ := gb hf
    refine g_callS (As := [.int x2, .int (0 : Int32), .int (2 : Int32)]) (rest := []) (n := 3) E (fX8_within_c k q1.2 x2 (0 : Int32) (2 : Int32) q4 hq5) gX8_judge_X8_within rfl rfl rfl (by decide +kernel) ⟨Nat.le_of_ble_eq_true rfl, Nat.le_of_ble_eq_true rfl⟩ rfl rfl (Nat.le_of_ble_eq_true rfl) dX8_judge_13 ?_
    refine g_if_ne (tgt := 22) E dX8_judge_16 (by decide) (fun c6 => ?_) (fun c6 => ?_)
    · have hf := gn hf c6
      refine g_aload_n E 0 dX8_judge_22 rfl rfl ?_
      refine g_get (C := RX8) (T := TX8) (N := 7) (ci := 8) E 0 0 (.ref (k.2.2.2.1 1)) hi_X8_judge_X8 (cwG0 _ _) rfl (by decide) hk_X8_judge_10 rfl dX8_judge_23 ?_
      refine g_iload_n E 1 dX8_judge_26 rfl rfl ?_
      refine g_iload_n E 2 dX8_judge_27 rfl rfl ?_
      obtain ⟨q7, hq8, hf⟩ := gb hf
      refine g_callV (C := RX0) (T := TX0) (N := 5) (ci := 0) (As := [.int x1, .int x2]) (rest := []) (n := 2) E 1 (fX0_add_c k q4.2 x1 x2 q7 hq8) gX8_judge_X0_add rfl rfl rfl (by decide +kernel) ⟨Nat.le_of_ble_eq_true rfl, Nat.le_of_ble_eq_true rfl⟩ rfl rfl (Nat.le_of_ble_eq_true rfl) rfl (cwG1 _ _) dX8_judge_28 ?_
      cases hf
      exact g_iret E dX8_judge_31
    · have hf := gp hf c6
      refine g_bipush (v := (-2 : Int32)) E dX8_judge_19 (by decide) ?_
      cases hf
      exact g_iret E dX8_judge_21
theorem hi_X4_add_X4 : ∀ w ∈ wsX40, w ∈ wsX4_add := by decide +kernel
theorem hk_X4_add_27 : Cond.fieldLink RX4 27 "PaperMarks$Papers" "count" "I" ∈ wsX4_add := by decide +kernel
theorem hk_X4_add_9 : Cond.fieldLink RX4 9 "PaperMarks$Papers" "worths" "[I" ∈ wsX4_add := by decide +kernel
theorem hk_X4_add_15 : Cond.fieldLink RX4 15 "PaperMarks$Papers" "writers" "[I" ∈ wsX4_add := by decide +kernel
theorem hk_X4_add_21 : Cond.fieldLink RX4 21 "PaperMarks$Papers" "laters" "[I" ∈ wsX4_add := by decide +kernel
def rm_fX4_add : Room := { frames := 0, cells := 0, slots := 0, locals := 0 }
set_option maxHeartbeats 4000000 in
set_option maxRecDepth 100000 in
theorem fX4_add_c (k : gK) (σ : St) (x1 : Int32) (x2 : Int32) (r : Int32 × St) (hf : fX4_add σ x1 x2 = some r) : MC k yX4_add wsX4_add rm_fX4_add [.ref (k.2.2.2.1 2), .int x1, .int x2] (cw k.2.2.2 σ) (some (.int r.1)) (cw k.2.2.2 r.2) := by
  refine MC_of (cc := cX4_add) (maxL := 3) (ret := (some .int)) (own := RX4) (lvs := [(0, .ref (k.2.2.2.1 2)), (1, .int x1), (2, .int x2)]) (by decide) rfl rfl (Nat.le_of_ble_eq_true rfl) rfl (fun X E => ?_)
  unfold fX4_add at hf
  refine g_aload_n E 0 dX4_add_0 rfl rfl ?_
  refine g_get (C := RX4) (T := TX4) (N := 6) (ci := 4) E 2 5 (.int (σ.2.1 1)) hi_X4_add_X4 (cwG2 _ _) rfl (by decide) hk_X4_add_27 rfl dX4_add_1 ?_
  refine g_bipush (v := (6 : Int32)) E dX4_add_4 (by decide) ?_
  refine g_icmp_lt (tgt := 12) E dX4_add_6 (by decide) (fun c1 => ?_) (fun c1 => ?_)
  · have hf := gp hf c1
    refine g_aload_n E 0 dX4_add_12 rfl rfl ?_
    refine g_get (C := RX4) (T := TX4) (N := 6) (ci := 4) E 2 0 (.ref (k.2.2.2.1 14)) hi_X4_add_X4 (cwG2 _ _) rfl (by decide) hk_X4_add_9 rfl dX4_add_13 ?_
    refine g_aload_n E 0 dX4_add_16 rfl rfl ?_
    refine g_get (C := RX4) (T := TX4) (N := 6) (ci := 4) E 2 5 (.int (σ.2.1 1)) hi_X4_add_X4 (cwG2 _ _) rfl (by decide) hk_X4_add_27 rfl dX4_add_17 ?_
    refine g_iload_n E 1 dX4_add_20 rfl rfl ?_
    obtain ⟨hi2, hf⟩ := gd hf
    refine g_iast E 14 (cw k.2.2.2 (uA σ 14 (σ.2.1 1).toNatClampNeg x1)) (σ.1 14) (cwG14 _ _) hi2 (cwA14 _ _ _ _) dX4_add_21 ?_
    refine g_aload_n E 0 dX4_add_22 rfl rfl ?_
    refine g_get (C := RX4) (T := TX4) (N := 6) (ci := 4) E 2 1 (.ref (k.2.2.2.1 15)) hi_X4_add_X4 (cwG2 _ _) rfl (by decide) hk_X4_add_15 rfl dX4_add_23 ?_
    refine g_aload_n E 0 dX4_add_26 rfl rfl ?_
    refine g_get (C := RX4) (T := TX4) (N := 6) (ci := 4) E 2 5 (.int (((uA σ 14 (σ.2.1 1).toNatClampNeg x1)).2.1 1)) hi_X4_add_X4 (cwG2 _ _) rfl (by decide) hk_X4_add_27 rfl dX4_add_27 ?_
    refine g_iload_n E 2 dX4_add_30 rfl rfl ?_
    obtain ⟨hi3, hf⟩ := gd hf
    refine g_iast E 15 (cw k.2.2.2 (uA ((uA σ 14 (σ.2.1 1).toNatClampNeg x1)) 15 ((((uA σ 14 (σ.2.1 1).toNatClampNeg x1)).2.1 1)).toNatClampNeg x2)) (((uA σ 14 (σ.2.1 1).toNatClampNeg x1)).1 15) (cwG15 _ _) hi3 (cwA15 _ _ _ _) dX4_add_31 ?_
    refine g_aload_n E 0 dX4_add_32 rfl rfl ?_
    refine g_get (C := RX4) (T := TX4) (N := 6) (ci := 4) E 2 3 (.ref (k.2.2.2.1 17)) hi_X4_add_X4 (cwG2 _ _) rfl (by decide) hk_X4_add_21 rfl dX4_add_33 ?_
    refine g_aload_n E 0 dX4_add_36 rfl rfl ?_
    refine g_get (C := RX4) (T := TX4) (N := 6) (ci := 4) E 2 5 (.int (((uA ((uA σ 14 (σ.2.1 1).toNatClampNeg x1)) 15 ((((uA σ 14 (σ.2.1 1).toNatClampNeg x1)).2.1 1)).toNatClampNeg x2)).2.1 1)) hi_X4_add_X4 (cwG2 _ _) rfl (by decide) hk_X4_add_27 rfl dX4_add_37 ?_
    refine g_bipush (v := (-6 : Int32)) E dX4_add_40 (by decide) ?_
    obtain ⟨hi4, hf⟩ := gd hf
    refine g_iast E 17 (cw k.2.2.2 (uA ((uA ((uA σ 14 (σ.2.1 1).toNatClampNeg x1)) 15 ((((uA σ 14 (σ.2.1 1).toNatClampNeg x1)).2.1 1)).toNatClampNeg x2)) 17 ((((uA ((uA σ 14 (σ.2.1 1).toNatClampNeg x1)) 15 ((((uA σ 14 (σ.2.1 1).toNatClampNeg x1)).2.1 1)).toNatClampNeg x2)).2.1 1)).toNatClampNeg (-6 : Int32))) (((uA ((uA σ 14 (σ.2.1 1).toNatClampNeg x1)) 15 ((((uA σ 14 (σ.2.1 1).toNatClampNeg x1)).2.1 1)).toNatClampNeg x2)).1 17) (cwG17 _ _) hi4 (cwA17 _ _ _ _) dX4_add_42 ?_
    refine g_aload_n E 0 dX4_add_43 rfl rfl ?_
    refine g_dup E dX4_add_44 rfl ?_
    refine g_get (C := RX4) (T := TX4) (N := 6) (ci := 4) E 2 5 (.int (((uA ((uA ((uA σ 14 (σ.2.1 1).toNatClampNeg x1)) 15 ((((uA σ 14 (σ.2.1 1).toNatClampNeg x1)).2.1 1)).toNatClampNeg x2)) 17 ((((uA ((uA σ 14 (σ.2.1 1).toNatClampNeg x1)) 15 ((((uA σ 14 (σ.2.1 1).toNatClampNeg x1)).2.1 1)).toNatClampNeg x2)).2.1 1)).toNatClampNeg (-6 : Int32))).2.1 1)) hi_X4_add_X4 (cwG2 _ _) rfl (by decide) hk_X4_add_27 rfl dX4_add_45 ?_
    refine g_dup_x1 E dX4_add_48 rfl rfl ?_
    refine g_iconst (v := (1 : Int32)) E dX4_add_49 (by decide) ?_
    refine g_iadd E dX4_add_50 ?_
    refine g_put (C := RX4) (T := TX4) (N := 6) (ci := 4) E 2 5 (cw k.2.2.2 (uI ((uA ((uA ((uA σ 14 (σ.2.1 1).toNatClampNeg x1)) 15 ((((uA σ 14 (σ.2.1 1).toNatClampNeg x1)).2.1 1)).toNatClampNeg x2)) 17 ((((uA ((uA σ 14 (σ.2.1 1).toNatClampNeg x1)) 15 ((((uA σ 14 (σ.2.1 1).toNatClampNeg x1)).2.1 1)).toNatClampNeg x2)).2.1 1)).toNatClampNeg (-6 : Int32))) 1 ((((((uA ((uA ((uA σ 14 (σ.2.1 1).toNatClampNeg x1)) 15 ((((uA σ 14 (σ.2.1 1).toNatClampNeg x1)).2.1 1)).toNatClampNeg x2)) 17 ((((uA ((uA σ 14 (σ.2.1 1).toNatClampNeg x1)) 15 ((((uA σ 14 (σ.2.1 1).toNatClampNeg x1)).2.1 1)).toNatClampNeg x2)).2.1 1)).toNatClampNeg (-6 : Int32))).2.1 1)) + (1 : Int32))))) hi_X4_add_X4 tyX4 tyX4_ok nmX4 (cwG2 _ _) rfl (by decide) hk_X4_add_27 rfl (by decide +kernel) (Nat.le_of_ble_eq_true rfl) (cwI1 _ _ _) dX4_add_51 ?_
    cases hf
    exact g_iret E dX4_add_54
  · have hf := gn hf c1
    refine g_bipush (v := (-4 : Int32)) E dX4_add_9 (by decide) ?_
    cases hf
    exact g_iret E dX4_add_11
theorem hi_X0_has_X0 : ∀ w ∈ wsX00, w ∈ wsX0_has := by decide +kernel
theorem hk_X0_has_24 : Cond.fieldLink RX0 24 "PaperMarks$Judges" "count" "I" ∈ wsX0_has := by decide +kernel
def rm_fX0_has : Room := { frames := 0, cells := 0, slots := 0, locals := 0 }
set_option maxHeartbeats 4000000 in
set_option maxRecDepth 100000 in
theorem fX0_has_c (k : gK) (σ : St) (x1 : Int32) (r : Int32 × St) (hf : fX0_has σ x1 = some r) : MC k yX0_has wsX0_has rm_fX0_has [.ref (k.2.2.2.1 1), .int x1] (cw k.2.2.2 σ) (some (.int r.1)) (cw k.2.2.2 r.2) := by
  refine MC_of (cc := cX0_has) (maxL := 2) (ret := (some .boolean)) (own := RX0) (lvs := [(0, .ref (k.2.2.2.1 1)), (1, .int x1)]) (by decide) rfl rfl (Nat.le_of_ble_eq_true rfl) rfl (fun X E => ?_)
  unfold fX0_has at hf
  refine g_iload_n E 1 dX0_has_0 rfl rfl ?_
  refine g_if_lt (tgt := 16) E dX0_has_1 (by decide) (fun c1 => ?_) (fun c1 => ?_)
  · have hf := gp hf c1
    refine g_iconst (v := (0 : Int32)) E dX0_has_16 (by decide) ?_
    cases hf
    exact g_zret E (Or.inl rfl) dX0_has_17
  · have hf := gn hf c1
    refine g_iload_n E 1 dX0_has_4 rfl rfl ?_
    refine g_aload_n E 0 dX0_has_5 rfl rfl ?_
    refine g_get (C := RX0) (T := TX0) (N := 5) (ci := 0) E 1 4 (.int (σ.2.1 0)) hi_X0_has_X0 (cwG1 _ _) rfl (by decide) hk_X0_has_24 rfl dX0_has_6 ?_
    refine g_icmp_ge (tgt := 16) E dX0_has_9 (by decide) (fun c2 => ?_) (fun c2 => ?_)
    · have hf := gp hf c2
      refine g_iconst (v := (0 : Int32)) E dX0_has_16 (by decide) ?_
      cases hf
      exact g_zret E (Or.inl rfl) dX0_has_17
    · have hf := gn hf c2
      refine g_iconst (v := (1 : Int32)) E dX0_has_12 (by decide) ?_
      refine g_goto (tgt := 17) E dX0_has_13 (by decide) ?_
      cases hf
      exact g_zret E (Or.inr rfl) dX0_has_17
theorem hi_X8_paper_X8 : ∀ w ∈ wsX80, w ∈ wsX8_paper := by decide +kernel
theorem hk_X8_paper_19 : Cond.fieldLink RX8 19 "PaperMarks" "papers" "LPaperMarks$Papers;" ∈ wsX8_paper := by decide +kernel
theorem hk_X8_paper_10 : Cond.fieldLink RX8 10 "PaperMarks" "judges" "LPaperMarks$Judges;" ∈ wsX8_paper := by decide +kernel
def rm_fX8_paper : Room := { frames := 1, cells := 0, slots := 0, locals := 22 }
set_option maxHeartbeats 4000000 in
set_option maxRecDepth 100000 in
theorem fX8_paper_w19 {k : gK} {X : gX} (E : gE k X cX8_paper RX8 wsX8_paper 3 (some .int) rm_fX8_paper) (σ : St) (x1 : Int32) (x2 : Int32) (r : Int32 × St) (hf : fX8_paper_b19 σ x1 x2 = some r) : G k X 3 (some (.int r.1)) (cw k.2.2.2 r.2) (cw k.2.2.2 σ) [(0, .ref (k.2.2.2.1 0)), (1, .int x1), (2, .int x2)] [] 19 := by
  unfold fX8_paper_b19 at hf
  refine g_iload_n E 1 dX8_paper_19 rfl rfl ?_
  refine g_iconst (v := (0 : Int32)) E dX8_paper_20 (by decide) ?_
  refine g_iconst (v := (5 : Int32)) E dX8_paper_21 (by decide) ?_
  obtain ⟨q1, hq2, hf⟩ := gb hf
  refine g_callS (As := [.int x1, .int (0 : Int32), .int (5 : Int32)]) (rest := []) (n := 3) E (fX8_within_c k σ x1 (0 : Int32) (5 : Int32) q1 hq2) gX8_paper_X8_within rfl rfl rfl (by decide +kernel) ⟨Nat.le_of_ble_eq_true rfl, Nat.le_of_ble_eq_true rfl⟩ rfl rfl (Nat.le_of_ble_eq_true rfl) dX8_paper_22 ?_
  refine g_if_ne (tgt := 31) E dX8_paper_25 (by decide) (fun c3 => ?_) (fun c3 => ?_)
  · have hf := gn hf c3
    refine g_aload_n E 0 dX8_paper_31 rfl rfl ?_
    refine g_get (C := RX8) (T := TX8) (N := 7) (ci := 8) E 0 1 (.ref (k.2.2.2.1 2)) hi_X8_paper_X8 (cwG0 _ _) rfl (by decide) hk_X8_paper_19 rfl dX8_paper_32 ?_
    refine g_iload_n E 1 dX8_paper_35 rfl rfl ?_
    refine g_iload_n E 2 dX8_paper_36 rfl rfl ?_
    obtain ⟨q4, hq5, hf⟩ := gb hf
    refine g_callV (C := RX4) (T := TX4) (N := 6) (ci := 4) (As := [.int x1, .int x2]) (rest := []) (n := 2) E 2 (fX4_add_c k q1.2 x1 x2 q4 hq5) gX8_paper_X4_add rfl rfl rfl (by decide +kernel) ⟨Nat.le_of_ble_eq_true rfl, Nat.le_of_ble_eq_true rfl⟩ rfl rfl (Nat.le_of_ble_eq_true rfl) rfl (cwG2 _ _) dX8_paper_37 ?_
    cases hf
    exact g_iret E dX8_paper_40
  · have hf := gp hf c3
    refine g_bipush (v := (-2 : Int32)) E dX8_paper_28 (by decide) ?_
    cases hf
    exact g_iret E dX8_paper_30
set_option maxHeartbeats 4000000 in
set_option maxRecDepth 100000 in
theorem fX8_paper_c (k : gK) (σ : St) (x1 : Int32) (x2 : Int32) (r : Int32 × St) (hf : fX8_paper σ x1 x2 = some r) : MC k yX8_paper wsX8_paper rm_fX8_paper [.ref (k.2.2.2.1 0), .int x1, .int x2] (cw k.2.2.2 σ) (some (.int r.1)) (cw k.2.2.2 r.2) := by
  refine MC_of (cc := cX8_paper) (maxL := 3) (ret := (some .int)) (own := RX8) (lvs := [(0, .ref (k.2.2.2.1 0)), (1, .int x1), (2, .int x2)]) (by decide) rfl rfl (Nat.le_of_ble_eq_true rfl) rfl (fun X E => ?_)
  unfold fX8_paper at hf
  refine g_iload_n E 2 dX8_paper_0 rfl rfl ?_
  refine g_bipush (v := (-6 : Int32)) E dX8_paper_1 (by decide) ?_
  refine g_icmp_eq (tgt := 19) E dX8_paper_3 (by decide) (fun c1 => ?_) (fun c1 => ?_)
  · have hf := gp hf c1
    exact fX8_paper_w19 E σ x1 x2 r hf
  · have hf := gn hf c1
    refine g_aload_n E 0 dX8_paper_6 rfl rfl ?_
    refine g_get (C := RX8) (T := TX8) (N := 7) (ci := 8) E 0 0 (.ref (k.2.2.2.1 1)) hi_X8_paper_X8 (cwG0 _ _) rfl (by decide) hk_X8_paper_10 rfl dX8_paper_7 ?_
    refine g_iload_n E 2 dX8_paper_10 rfl rfl ?_
    obtain ⟨q2, hq3, hf⟩ := gb hf
    refine g_callV (C := RX0) (T := TX0) (N := 5) (ci := 0) (As := [.int x2]) (rest := []) (n := 1) E 1 (fX0_has_c k σ x2 q2 hq3) gX8_paper_X0_has rfl rfl rfl (by decide +kernel) ⟨Nat.le_of_ble_eq_true rfl, Nat.le_of_ble_eq_true rfl⟩ rfl rfl (Nat.le_of_ble_eq_true rfl) rfl (cwG1 _ _) dX8_paper_11 ?_
    refine g_if_ne (tgt := 19) E dX8_paper_14 (by decide) (fun c4 => ?_) (fun c4 => ?_)
    · have hf := gn hf c4
      exact fX8_paper_w19 E q2.2 x1 x2 r hf
    · have hf := gp hf c4
      refine g_iconst (v := (-1 : Int32)) E dX8_paper_17 (by decide) ?_
      cases hf
      exact g_iret E dX8_paper_18
theorem hi_X0_tieOf_X0 : ∀ w ∈ wsX00, w ∈ wsX0_tieOf := by decide +kernel
theorem hk_X0_tieOf_21 : Cond.fieldLink RX0 21 "PaperMarks$Judges" "ties" "[I" ∈ wsX0_tieOf := by decide +kernel
def rm_fX0_tieOf : Room := { frames := 1, cells := 0, slots := 0, locals := 21 }
set_option maxHeartbeats 4000000 in
set_option maxRecDepth 100000 in
theorem fX0_tieOf_c (k : gK) (σ : St) (x1 : Int32) (x2 : Int32) (r : Int32 × St) (hf : fX0_tieOf σ x1 x2 = some r) : MC k yX0_tieOf wsX0_tieOf rm_fX0_tieOf [.ref (k.2.2.2.1 1), .int x1, .int x2] (cw k.2.2.2 σ) (some (.int r.1)) (cw k.2.2.2 r.2) := by
  refine MC_of (cc := cX0_tieOf) (maxL := 3) (ret := (some .int)) (own := RX0) (lvs := [(0, .ref (k.2.2.2.1 1)), (1, .int x1), (2, .int x2)]) (by decide) rfl rfl (Nat.le_of_ble_eq_true rfl) rfl (fun X E => ?_)
  unfold fX0_tieOf at hf
  refine g_aload_n E 0 dX0_tieOf_0 rfl rfl ?_
  refine g_iload_n E 1 dX0_tieOf_1 rfl rfl ?_
  obtain ⟨q1, hq2, hf⟩ := gb hf
  refine g_callV (C := RX0) (T := TX0) (N := 5) (ci := 0) (As := [.int x1]) (rest := []) (n := 1) E 1 (fX0_has_c k σ x1 q1 hq2) gX0_tieOf_X0_has rfl rfl rfl (by decide +kernel) ⟨Nat.le_of_ble_eq_true rfl, Nat.le_of_ble_eq_true rfl⟩ rfl rfl (Nat.le_of_ble_eq_true rfl) rfl (cwG1 _ _) dX0_tieOf_2 ?_
  refine g_if_eq (tgt := 30) E dX0_tieOf_5 (by decide) (fun c3 => ?_) (fun c3 => ?_)
  · have hf := gp hf c3
    refine g_iconst (v := (0 : Int32)) E dX0_tieOf_30 (by decide) ?_
    cases hf
    exact g_iret E dX0_tieOf_31
  · have hf := gn hf c3
    refine g_aload_n E 0 dX0_tieOf_8 rfl rfl ?_
    refine g_iload_n E 2 dX0_tieOf_9 rfl rfl ?_
    obtain ⟨q4, hq5, hf⟩ := gb hf
    refine g_callV (C := RX0) (T := TX0) (N := 5) (ci := 0) (As := [.int x2]) (rest := []) (n := 1) E 1 (fX0_has_c k q1.2 x2 q4 hq5) gX0_tieOf_X0_has rfl rfl rfl (by decide +kernel) ⟨Nat.le_of_ble_eq_true rfl, Nat.le_of_ble_eq_true rfl⟩ rfl rfl (Nat.le_of_ble_eq_true rfl) rfl (cwG1 _ _) dX0_tieOf_10 ?_
    refine g_if_eq (tgt := 30) E dX0_tieOf_13 (by decide) (fun c6 => ?_) (fun c6 => ?_)
    · have hf := gp hf c6
      refine g_iconst (v := (0 : Int32)) E dX0_tieOf_30 (by decide) ?_
      cases hf
      exact g_iret E dX0_tieOf_31
    · have hf := gn hf c6
      refine g_aload_n E 0 dX0_tieOf_16 rfl rfl ?_
      refine g_get (C := RX0) (T := TX0) (N := 5) (ci := 0) E 1 3 (.ref (k.2.2.2.1 13)) hi_X0_tieOf_X0 (cwG1 _ _) rfl (by decide) hk_X0_tieOf_21 rfl dX0_tieOf_17 ?_
      refine g_iload_n E 1 dX0_tieOf_20 rfl rfl ?_
      refine g_bipush (v := (6 : Int32)) E dX0_tieOf_21 (by decide) ?_
      refine g_imul E dX0_tieOf_23 ?_
      refine g_iload_n E 2 dX0_tieOf_24 rfl rfl ?_
      refine g_iadd E dX0_tieOf_25 ?_
      obtain ⟨hi7, hf⟩ := gd hf
      refine g_iald E 13 (q4.2.1 13) (cwG13 _ _) hi7 dX0_tieOf_26 ?_
      refine g_goto (tgt := 31) E dX0_tieOf_27 (by decide) ?_
      cases hf
      exact g_iret E dX0_tieOf_31
theorem hi_X0_putTie_X0 : ∀ w ∈ wsX00, w ∈ wsX0_putTie := by decide +kernel
theorem hk_X0_putTie_21 : Cond.fieldLink RX0 21 "PaperMarks$Judges" "ties" "[I" ∈ wsX0_putTie := by decide +kernel
def rm_fX0_putTie : Room := { frames := 0, cells := 0, slots := 0, locals := 0 }
set_option maxHeartbeats 4000000 in
set_option maxRecDepth 100000 in
theorem fX0_putTie_c (k : gK) (σ : St) (x1 : Int32) (x2 : Int32) (x3 : Int32) (r : Unit × St) (hf : fX0_putTie σ x1 x2 x3 = some r) : MC k yX0_putTie wsX0_putTie rm_fX0_putTie [.ref (k.2.2.2.1 1), .int x1, .int x2, .int x3] (cw k.2.2.2 σ) (none) (cw k.2.2.2 r.2) := by
  refine MC_of (cc := cX0_putTie) (maxL := 4) (ret := none) (own := RX0) (lvs := [(0, .ref (k.2.2.2.1 1)), (1, .int x1), (2, .int x2), (3, .int x3)]) (by decide) rfl rfl (Nat.le_of_ble_eq_true rfl) rfl (fun X E => ?_)
  unfold fX0_putTie at hf
  refine g_aload_n E 0 dX0_putTie_0 rfl rfl ?_
  refine g_get (C := RX0) (T := TX0) (N := 5) (ci := 0) E 1 3 (.ref (k.2.2.2.1 13)) hi_X0_putTie_X0 (cwG1 _ _) rfl (by decide) hk_X0_putTie_21 rfl dX0_putTie_1 ?_
  refine g_iload_n E 1 dX0_putTie_4 rfl rfl ?_
  refine g_bipush (v := (6 : Int32)) E dX0_putTie_5 (by decide) ?_
  refine g_imul E dX0_putTie_7 ?_
  refine g_iload_n E 2 dX0_putTie_8 rfl rfl ?_
  refine g_iadd E dX0_putTie_9 ?_
  refine g_iload_n E 3 dX0_putTie_10 rfl rfl ?_
  obtain ⟨hi1, hf⟩ := gd hf
  refine g_iast E 13 (cw k.2.2.2 (uA σ 13 ((((x1 * (6 : Int32))) + x2)).toNatClampNeg x3)) (σ.1 13) (cwG13 _ _) hi1 (cwA13 _ _ _ _) dX0_putTie_11 ?_
  refine g_aload_n E 0 dX0_putTie_12 rfl rfl ?_
  refine g_get (C := RX0) (T := TX0) (N := 5) (ci := 0) E 1 3 (.ref (k.2.2.2.1 13)) hi_X0_putTie_X0 (cwG1 _ _) rfl (by decide) hk_X0_putTie_21 rfl dX0_putTie_13 ?_
  refine g_iload_n E 2 dX0_putTie_16 rfl rfl ?_
  refine g_bipush (v := (6 : Int32)) E dX0_putTie_17 (by decide) ?_
  refine g_imul E dX0_putTie_19 ?_
  refine g_iload_n E 1 dX0_putTie_20 rfl rfl ?_
  refine g_iadd E dX0_putTie_21 ?_
  refine g_iload_n E 3 dX0_putTie_22 rfl rfl ?_
  obtain ⟨hi2, hf⟩ := gd hf
  refine g_iast E 13 (cw k.2.2.2 (uA ((uA σ 13 ((((x1 * (6 : Int32))) + x2)).toNatClampNeg x3)) 13 ((((x2 * (6 : Int32))) + x1)).toNatClampNeg x3)) (((uA σ 13 ((((x1 * (6 : Int32))) + x2)).toNatClampNeg x3)).1 13) (cwG13 _ _) hi2 (cwA13 _ _ _ _) dX0_putTie_23 ?_
  cases hf
  exact g_vret E dX0_putTie_24
theorem hi_X8_tie_X8 : ∀ w ∈ wsX80, w ∈ wsX8_tie := by decide +kernel
theorem hk_X8_tie_10 : Cond.fieldLink RX8 10 "PaperMarks" "judges" "LPaperMarks$Judges;" ∈ wsX8_tie := by decide +kernel
def rm_fX8_tie : Room := { frames := 2, cells := 0, slots := 0, locals := 43 }
set_option maxHeartbeats 4000000 in
set_option maxRecDepth 100000 in
theorem fX8_tie_c (k : gK) (σ : St) (x1 : Int32) (x2 : Int32) (x3 : Int32) (r : Int32 × St) (hf : fX8_tie σ x1 x2 x3 = some r) : MC k yX8_tie wsX8_tie rm_fX8_tie [.ref (k.2.2.2.1 0), .int x1, .int x2, .int x3] (cw k.2.2.2 σ) (some (.int r.1)) (cw k.2.2.2 r.2) := by
  refine MC_of (cc := cX8_tie) (maxL := 5) (ret := (some .int)) (own := RX8) (lvs := [(0, .ref (k.2.2.2.1 0)), (1, .int x1), (2, .int x2), (3, .int x3)]) (by decide) rfl rfl (Nat.le_of_ble_eq_true rfl) rfl (fun X E => ?_)
  unfold fX8_tie at hf
  refine g_aload_n E 0 dX8_tie_0 rfl rfl ?_
  refine g_get (C := RX8) (T := TX8) (N := 7) (ci := 8) E 0 0 (.ref (k.2.2.2.1 1)) hi_X8_tie_X8 (cwG0 _ _) rfl (by decide) hk_X8_tie_10 rfl dX8_tie_1 ?_
  refine g_iload_n E 1 dX8_tie_4 rfl rfl ?_
  obtain ⟨q1, hq2, hf⟩ := gb hf
  refine g_callV (C := RX0) (T := TX0) (N := 5) (ci := 0) (As := [.int x1]) (rest := []) (n := 1) E 1 (fX0_has_c k σ x1 q1 hq2) gX8_tie_X0_has rfl rfl rfl (by decide +kernel) ⟨Nat.le_of_ble_eq_true rfl, Nat.le_of_ble_eq_true rfl⟩ rfl rfl (Nat.le_of_ble_eq_true rfl) rfl (cwG1 _ _) dX8_tie_5 ?_
  refine g_if_eq (tgt := 27) E dX8_tie_8 (by decide) (fun c3 => ?_) (fun c3 => ?_)
  · have hf := gp hf c3
    refine g_iconst (v := (-1 : Int32)) E dX8_tie_27 (by decide) ?_
    cases hf
    exact g_iret E dX8_tie_28
  · have hf := gn hf c3
    refine g_aload_n E 0 dX8_tie_11 rfl rfl ?_
    refine g_get (C := RX8) (T := TX8) (N := 7) (ci := 8) E 0 0 (.ref (k.2.2.2.1 1)) hi_X8_tie_X8 (cwG0 _ _) rfl (by decide) hk_X8_tie_10 rfl dX8_tie_12 ?_
    refine g_iload_n E 2 dX8_tie_15 rfl rfl ?_
    obtain ⟨q4, hq5, hf⟩ := gb hf
    refine g_callV (C := RX0) (T := TX0) (N := 5) (ci := 0) (As := [.int x2]) (rest := []) (n := 1) E 1 (fX0_has_c k q1.2 x2 q4 hq5) gX8_tie_X0_has rfl rfl rfl (by decide +kernel) ⟨Nat.le_of_ble_eq_true rfl, Nat.le_of_ble_eq_true rfl⟩ rfl rfl (Nat.le_of_ble_eq_true rfl) rfl (cwG1 _ _) dX8_tie_16 ?_
    refine g_if_eq (tgt := 27) E dX8_tie_19 (by decide) (fun c6 => ?_) (fun c6 => ?_)
    · have hf := gp hf c6
      refine g_iconst (v := (-1 : Int32)) E dX8_tie_27 (by decide) ?_
      cases hf
      exact g_iret E dX8_tie_28
    · have hf := gn hf c6
      refine g_iload_n E 1 dX8_tie_22 rfl rfl ?_
      refine g_iload_n E 2 dX8_tie_23 rfl rfl ?_
      refine g_icmp_ne (tgt := 29) E dX8_tie_24 (by decide) (fun c7 => ?_) (fun c7 => ?_)
      · have hf := gn hf c7
        refine g_iload_n E 3 dX8_tie_29 rfl rfl ?_
        refine g_iconst (v := (-1 : Int32)) E dX8_tie_30 (by decide) ?_
        refine g_iconst (v := (1 : Int32)) E dX8_tie_31 (by decide) ?_
        obtain ⟨q8, hq9, hf⟩ := gb hf
        refine g_callS (As := [.int x3, .int (-1 : Int32), .int (1 : Int32)]) (rest := []) (n := 3) E (fX8_within_c k q4.2 x3 (-1 : Int32) (1 : Int32) q8 hq9) gX8_tie_X8_within rfl rfl rfl (by decide +kernel) ⟨Nat.le_of_ble_eq_true rfl, Nat.le_of_ble_eq_true rfl⟩ rfl rfl (Nat.le_of_ble_eq_true rfl) dX8_tie_32 ?_
        refine g_if_ne (tgt := 41) E dX8_tie_35 (by decide) (fun c10 => ?_) (fun c10 => ?_)
        · have hf := gn hf c10
          refine g_aload_n E 0 dX8_tie_41 rfl rfl ?_
          refine g_get (C := RX8) (T := TX8) (N := 7) (ci := 8) E 0 0 (.ref (k.2.2.2.1 1)) hi_X8_tie_X8 (cwG0 _ _) rfl (by decide) hk_X8_tie_10 rfl dX8_tie_42 ?_
          refine g_iload_n E 1 dX8_tie_45 rfl rfl ?_
          refine g_iload_n E 2 dX8_tie_46 rfl rfl ?_
          obtain ⟨q11, hq12, hf⟩ := gb hf
          refine g_callV (C := RX0) (T := TX0) (N := 5) (ci := 0) (As := [.int x1, .int x2]) (rest := []) (n := 2) E 1 (fX0_tieOf_c k q8.2 x1 x2 q11 hq12) gX8_tie_X0_tieOf rfl rfl rfl (by decide +kernel) ⟨Nat.le_of_ble_eq_true rfl, Nat.le_of_ble_eq_true rfl⟩ rfl rfl (Nat.le_of_ble_eq_true rfl) rfl (cwG1 _ _) dX8_tie_47 ?_
          refine g_istore E [(4, .int q11.1), (0, .ref (k.2.2.2.1 0)), (1, .int x1), (2, .int x2), (3, .int x3)] dX8_tie_50 (by decide) rfl ?_
          refine g_aload_n E 1 dX8_tie_52 rfl rfl ?_
          refine g_get (C := RX8) (T := TX8) (N := 7) (ci := 8) E 0 0 (.ref (k.2.2.2.1 1)) hi_X8_tie_X8 (cwG0 _ _) rfl (by decide) hk_X8_tie_10 rfl dX8_tie_53 ?_
          refine g_iload_n E 2 dX8_tie_56 rfl rfl ?_
          refine g_iload_n E 3 dX8_tie_57 rfl rfl ?_
          refine g_iload_n E 4 dX8_tie_58 rfl rfl ?_
          obtain ⟨q13, hq14, hf⟩ := gb hf
          refine g_callV (C := RX0) (T := TX0) (N := 5) (ci := 0) (As := [.int x1, .int x2, .int x3]) (rest := []) (n := 3) E 1 (fX0_putTie_c k q11.2 x1 x2 x3 q13 hq14) gX8_tie_X0_putTie rfl rfl rfl (by decide +kernel) ⟨Nat.le_of_ble_eq_true rfl, Nat.le_of_ble_eq_true rfl⟩ rfl rfl (Nat.le_of_ble_eq_true rfl) rfl (cwG1 _ _) dX8_tie_59 ?_
          refine g_iload E 0 dX8_tie_62 rfl ?_
          refine g_bipush (v := (10 : Int32)) E dX8_tie_64 (by decide) ?_
          refine g_iadd E dX8_tie_66 ?_
          cases hf
          exact g_iret E dX8_tie_67
        · have hf := gp hf c10
          refine g_bipush (v := (-2 : Int32)) E dX8_tie_38 (by decide) ?_
          cases hf
          exact g_iret E dX8_tie_40
      · have hf := gp hf c7
        refine g_iconst (v := (-1 : Int32)) E dX8_tie_27 (by decide) ?_
        cases hf
        exact g_iret E dX8_tie_28
def rm_fX8_replace_19 : Room := { frames := 0, cells := 0, slots := 0, locals := 0 }
set_option maxHeartbeats 4000000 in
set_option maxRecDepth 100000 in
theorem fX8_replace_19_c (k : gK) (σ : St) (x1 : Int32) (x2 : Int32) (r : Int32 × St) (hf : fX8_replace_19 σ x1 x2 = some r) : MC k yX8_replace wsX8_replace rm_fX8_replace_19 [.ref (k.2.2.2.1 19), .int x1, .int x2] (cw k.2.2.2 σ) (some (.int r.1)) (cw k.2.2.2 r.2) := by
  refine MC_of (cc := cX8_replace) (maxL := 4) (ret := (some .int)) (own := RX8) (lvs := [(0, .ref (k.2.2.2.1 19)), (1, .int x1), (2, .int x2)]) (by decide) rfl rfl (Nat.le_of_ble_eq_true rfl) rfl (fun X E => ?_)
  unfold fX8_replace_19 at hf
  refine g_aload_n E 0 dX8_replace_0 rfl rfl ?_
  refine g_iload_n E 1 dX8_replace_1 rfl rfl ?_
  obtain ⟨hi1, hf⟩ := gd hf
  refine g_iald E 19 (σ.1 19) (cwG19 _ _) hi1 dX8_replace_2 ?_
  refine g_istore_n E [(3, .int (σ.1 19 x1.toNatClampNeg)), (0, .ref (k.2.2.2.1 19)), (1, .int x1), (2, .int x2)] dX8_replace_3 rfl (by decide) rfl ?_
  refine g_aload_n E 1 dX8_replace_4 rfl rfl ?_
  refine g_iload_n E 2 dX8_replace_5 rfl rfl ?_
  refine g_iload_n E 3 dX8_replace_6 rfl rfl ?_
  obtain ⟨hi2, hf⟩ := gd hf
  refine g_iast E 19 (cw k.2.2.2 (uA σ 19 x1.toNatClampNeg x2)) (σ.1 19) (cwG19 _ _) hi2 (cwA19 _ _ _ _) dX8_replace_7 ?_
  refine g_iload_n E 0 dX8_replace_8 rfl rfl ?_
  cases hf
  exact g_iret E dX8_replace_9
theorem hi_X4_has_X4 : ∀ w ∈ wsX40, w ∈ wsX4_has := by decide +kernel
theorem hk_X4_has_27 : Cond.fieldLink RX4 27 "PaperMarks$Papers" "count" "I" ∈ wsX4_has := by decide +kernel
def rm_fX4_has : Room := { frames := 0, cells := 0, slots := 0, locals := 0 }
set_option maxHeartbeats 4000000 in
set_option maxRecDepth 100000 in
theorem fX4_has_c (k : gK) (σ : St) (x1 : Int32) (r : Int32 × St) (hf : fX4_has σ x1 = some r) : MC k yX4_has wsX4_has rm_fX4_has [.ref (k.2.2.2.1 2), .int x1] (cw k.2.2.2 σ) (some (.int r.1)) (cw k.2.2.2 r.2) := by
  refine MC_of (cc := cX4_has) (maxL := 2) (ret := (some .boolean)) (own := RX4) (lvs := [(0, .ref (k.2.2.2.1 2)), (1, .int x1)]) (by decide) rfl rfl (Nat.le_of_ble_eq_true rfl) rfl (fun X E => ?_)
  unfold fX4_has at hf
  refine g_iload_n E 1 dX4_has_0 rfl rfl ?_
  refine g_if_lt (tgt := 16) E dX4_has_1 (by decide) (fun c1 => ?_) (fun c1 => ?_)
  · have hf := gp hf c1
    refine g_iconst (v := (0 : Int32)) E dX4_has_16 (by decide) ?_
    cases hf
    exact g_zret E (Or.inl rfl) dX4_has_17
  · have hf := gn hf c1
    refine g_iload_n E 1 dX4_has_4 rfl rfl ?_
    refine g_aload_n E 0 dX4_has_5 rfl rfl ?_
    refine g_get (C := RX4) (T := TX4) (N := 6) (ci := 4) E 2 5 (.int (σ.2.1 1)) hi_X4_has_X4 (cwG2 _ _) rfl (by decide) hk_X4_has_27 rfl dX4_has_6 ?_
    refine g_icmp_ge (tgt := 16) E dX4_has_9 (by decide) (fun c2 => ?_) (fun c2 => ?_)
    · have hf := gp hf c2
      refine g_iconst (v := (0 : Int32)) E dX4_has_16 (by decide) ?_
      cases hf
      exact g_zret E (Or.inl rfl) dX4_has_17
    · have hf := gn hf c2
      refine g_iconst (v := (1 : Int32)) E dX4_has_12 (by decide) ?_
      refine g_goto (tgt := 17) E dX4_has_13 (by decide) ?_
      cases hf
      exact g_zret E (Or.inr rfl) dX4_has_17
theorem hi_X8_mark_X8 : ∀ w ∈ wsX80, w ∈ wsX8_mark := by decide +kernel
theorem hi_X8_mark_X4 : ∀ w ∈ wsX40, w ∈ wsX8_mark := by decide +kernel
theorem hi_X8_mark_X1 : ∀ w ∈ wsX10, w ∈ wsX8_mark := by decide +kernel
theorem hk_X8_mark_10 : Cond.fieldLink RX8 10 "PaperMarks" "judges" "LPaperMarks$Judges;" ∈ wsX8_mark := by decide +kernel
theorem hk_X8_mark_19 : Cond.fieldLink RX8 19 "PaperMarks" "papers" "LPaperMarks$Papers;" ∈ wsX8_mark := by decide +kernel
theorem hk_X8_mark_83 : Cond.fieldLink RX8 83 "PaperMarks$Papers" "writers" "[I" ∈ wsX8_mark := by decide +kernel
theorem hk_X8_mark_26 : Cond.fieldLink RX8 26 "PaperMarks" "marks" "LPaperMarks$Marks;" ∈ wsX8_mark := by decide +kernel
theorem hk_X8_mark_87 : Cond.fieldLink RX8 87 "PaperMarks$Marks" "came" "[I" ∈ wsX8_mark := by decide +kernel
def rm_fX8_mark : Room := { frames := 1, cells := 0, slots := 0, locals := 23 }
set_option maxHeartbeats 4000000 in
set_option maxRecDepth 100000 in
theorem fX8_mark_w76 {k : gK} {X : gX} (E : gE k X cX8_mark RX8 wsX8_mark 4 (some .int) rm_fX8_mark) (σ : St) (t1 : Int32) (t2 : Int32) (r : Int32 × St) (hf : fX8_mark_b76 σ t1 t2 = some r) : G k X 4 (some (.int r.1)) (cw k.2.2.2 r.2) (cw k.2.2.2 σ) [] [.int t2, .int t1, .ref (k.2.2.2.1 19)] 76 := by
  unfold fX8_mark_b76 at hf
  obtain ⟨q1, hq2, hf⟩ := gb hf
  refine g_callS (As := [.ref (k.2.2.2.1 19), .int t1, .int t2]) (rest := []) (n := 3) E (fX8_replace_19_c k σ t1 t2 q1 hq2) gX8_mark_X8_replace rfl rfl rfl (by decide +kernel) ⟨Nat.le_of_ble_eq_true rfl, Nat.le_of_ble_eq_true rfl⟩ rfl rfl (Nat.le_of_ble_eq_true rfl) dX8_mark_76 ?_
  cases hf
  exact g_iret E dX8_mark_79
set_option maxHeartbeats 4000000 in
set_option maxRecDepth 100000 in
theorem fX8_mark_c (k : gK) (σ : St) (x1 : Int32) (x2 : Int32) (x3 : Int32) (r : Int32 × St) (hf : fX8_mark σ x1 x2 x3 = some r) : MC k yX8_mark wsX8_mark rm_fX8_mark [.ref (k.2.2.2.1 0), .int x1, .int x2, .int x3] (cw k.2.2.2 σ) (some (.int r.1)) (cw k.2.2.2 r.2) := by
  refine MC_of (cc := cX8_mark) (maxL := 4) (ret := (some .int)) (own := RX8) (lvs := [(0, .ref (k.2.2.2.1 0)), (1, .int x1), (2, .int x2), (3, .int x3)]) (by decide) rfl rfl (Nat.le_of_ble_eq_true rfl) rfl (fun X E => ?_)
  unfold fX8_mark at hf
  refine g_aload_n E 0 dX8_mark_0 rfl rfl ?_
  refine g_get (C := RX8) (T := TX8) (N := 7) (ci := 8) E 0 0 (.ref (k.2.2.2.1 1)) hi_X8_mark_X8 (cwG0 _ _) rfl (by decide) hk_X8_mark_10 rfl dX8_mark_1 ?_
  refine g_iload_n E 1 dX8_mark_4 rfl rfl ?_
  obtain ⟨q1, hq2, hf⟩ := gb hf
  refine g_callV (C := RX0) (T := TX0) (N := 5) (ci := 0) (As := [.int x1]) (rest := []) (n := 1) E 1 (fX0_has_c k σ x1 q1 hq2) gX8_mark_X0_has rfl rfl rfl (by decide +kernel) ⟨Nat.le_of_ble_eq_true rfl, Nat.le_of_ble_eq_true rfl⟩ rfl rfl (Nat.le_of_ble_eq_true rfl) rfl (cwG1 _ _) dX8_mark_5 ?_
  refine g_if_eq (tgt := 22) E dX8_mark_8 (by decide) (fun c3 => ?_) (fun c3 => ?_)
  · have hf := gp hf c3
    refine g_iconst (v := (-1 : Int32)) E dX8_mark_22 (by decide) ?_
    cases hf
    exact g_iret E dX8_mark_23
  · have hf := gn hf c3
    refine g_aload_n E 0 dX8_mark_11 rfl rfl ?_
    refine g_get (C := RX8) (T := TX8) (N := 7) (ci := 8) E 0 1 (.ref (k.2.2.2.1 2)) hi_X8_mark_X8 (cwG0 _ _) rfl (by decide) hk_X8_mark_19 rfl dX8_mark_12 ?_
    refine g_iload_n E 2 dX8_mark_15 rfl rfl ?_
    obtain ⟨q4, hq5, hf⟩ := gb hf
    refine g_callV (C := RX4) (T := TX4) (N := 6) (ci := 4) (As := [.int x2]) (rest := []) (n := 1) E 2 (fX4_has_c k q1.2 x2 q4 hq5) gX8_mark_X4_has rfl rfl rfl (by decide +kernel) ⟨Nat.le_of_ble_eq_true rfl, Nat.le_of_ble_eq_true rfl⟩ rfl rfl (Nat.le_of_ble_eq_true rfl) rfl (cwG2 _ _) dX8_mark_16 ?_
    refine g_if_ne (tgt := 24) E dX8_mark_19 (by decide) (fun c6 => ?_) (fun c6 => ?_)
    · have hf := gn hf c6
      refine g_iload_n E 3 dX8_mark_24 rfl rfl ?_
      refine g_iconst (v := (-1 : Int32)) E dX8_mark_25 (by decide) ?_
      refine g_iconst (v := (5 : Int32)) E dX8_mark_26 (by decide) ?_
      obtain ⟨q7, hq8, hf⟩ := gb hf
      refine g_callS (As := [.int x3, .int (-1 : Int32), .int (5 : Int32)]) (rest := []) (n := 3) E (fX8_within_c k q4.2 x3 (-1 : Int32) (5 : Int32) q7 hq8) gX8_mark_X8_within rfl rfl rfl (by decide +kernel) ⟨Nat.le_of_ble_eq_true rfl, Nat.le_of_ble_eq_true rfl⟩ rfl rfl (Nat.le_of_ble_eq_true rfl) dX8_mark_27 ?_
      refine g_if_ne (tgt := 36) E dX8_mark_30 (by decide) (fun c9 => ?_) (fun c9 => ?_)
      · have hf := gn hf c9
        refine g_aload_n E 0 dX8_mark_36 rfl rfl ?_
        refine g_get (C := RX8) (T := TX8) (N := 7) (ci := 8) E 0 1 (.ref (k.2.2.2.1 2)) hi_X8_mark_X8 (cwG0 _ _) rfl (by decide) hk_X8_mark_19 rfl dX8_mark_37 ?_
        refine g_get (C := RX4) (T := TX4) (N := 6) (ci := 4) E 2 1 (.ref (k.2.2.2.1 15)) hi_X8_mark_X4 (cwG2 _ _) rfl (by decide) hk_X8_mark_83 rfl dX8_mark_40 ?_
        refine g_iload_n E 2 dX8_mark_43 rfl rfl ?_
        obtain ⟨hi10, hf⟩ := gd hf
        refine g_iald E 15 (q7.2.1 15) (cwG15 _ _) hi10 dX8_mark_44 ?_
        refine g_iload_n E 1 dX8_mark_45 rfl rfl ?_
        refine g_icmp_ne (tgt := 52) E dX8_mark_46 (by decide) (fun c11 => ?_) (fun c11 => ?_)
        · have hf := gn hf c11
          refine g_aload_n E 0 dX8_mark_52 rfl rfl ?_
          refine g_get (C := RX8) (T := TX8) (N := 7) (ci := 8) E 0 2 (.ref (k.2.2.2.1 3)) hi_X8_mark_X8 (cwG0 _ _) rfl (by decide) hk_X8_mark_26 rfl dX8_mark_53 ?_
          refine g_get (C := RX1) (T := TX1) (N := 2) (ci := 1) E 3 0 (.ref (k.2.2.2.1 19)) hi_X8_mark_X1 (cwG3 _ _) rfl (by decide) hk_X8_mark_87 rfl dX8_mark_56 ?_
          refine g_iload_n E 1 dX8_mark_59 rfl rfl ?_
          refine g_bipush (v := (6 : Int32)) E dX8_mark_60 (by decide) ?_
          refine g_imul E dX8_mark_62 ?_
          refine g_iload_n E 2 dX8_mark_63 rfl rfl ?_
          refine g_iadd E dX8_mark_64 ?_
          refine g_iload_n E 3 dX8_mark_65 rfl rfl ?_
          refine g_iconst (v := (-1 : Int32)) E dX8_mark_66 (by decide) ?_
          refine g_icmp_ne (tgt := 75) E dX8_mark_67 (by decide) (fun c12 => ?_) (fun c12 => ?_)
          · have hf := gn hf c12
            refine g_iload_n E 3 dX8_mark_75 rfl rfl ?_
            exact g_sub [] rfl (fX8_mark_w76 E q7.2 (((x1 * (6 : Int32))) + x2) x3 r hf)
          · have hf := gp hf c12
            refine g_bipush (v := (-6 : Int32)) E dX8_mark_70 (by decide) ?_
            refine g_goto (tgt := 76) E dX8_mark_72 (by decide) ?_
            exact g_sub [] rfl (fX8_mark_w76 E q7.2 (((x1 * (6 : Int32))) + x2) (-6 : Int32) r hf)
        · have hf := gp hf c11
          refine g_bipush (v := (-5 : Int32)) E dX8_mark_49 (by decide) ?_
          cases hf
          exact g_iret E dX8_mark_51
      · have hf := gp hf c9
        refine g_bipush (v := (-2 : Int32)) E dX8_mark_33 (by decide) ?_
        cases hf
        exact g_iret E dX8_mark_35
    · have hf := gp hf c6
      refine g_iconst (v := (-1 : Int32)) E dX8_mark_22 (by decide) ?_
      cases hf
      exact g_iret E dX8_mark_23
