theorem hi_X9_quarters_X9 : ∀ w ∈ wsX90, w ∈ wsX9_quarters := by decide +kernel
theorem hk_X9_quarters_13 : Cond.fieldLink RX9 13 "PaperMarksModel" "slips" "[I" ∈ wsX9_quarters := by decide +kernel
def rm_fX9_quarters : Room := { frames := 0, cells := 0, slots := 0, locals := 0 }
set_option maxHeartbeats 4000000 in
set_option maxRecDepth 100000 in
theorem fX9_quarters_c (k : gK) (σ : St) (x1 : Int32) (x2 : Int32) (r : Int32 × St) (hf : fX9_quarters σ x1 x2 = some r) : MC k yX9_quarters wsX9_quarters rm_fX9_quarters [.ref (k.2.2.2.1 0), .int x1, .int x2] (mw k.2.2.2 σ) (some (.int r.1)) (mw k.2.2.2 r.2) := by
  refine MC_of (cc := cX9_quarters) (maxL := 3) (ret := (some .int)) (own := RX9) (lvs := [(0, .ref (k.2.2.2.1 0)), (1, .int x1), (2, .int x2)]) (by decide) rfl rfl (Nat.le_of_ble_eq_true rfl) rfl (fun X E => ?_)
  unfold fX9_quarters at hf
  refine g_iload_n E 2 dX9_quarters_0 rfl rfl ?_
  refine g_iconst (v := (1 : Int32)) E dX9_quarters_1 (by decide) ?_
  refine g_icmp_ne (tgt := 18) E dX9_quarters_2 (by decide) (fun c1 => ?_) (fun c1 => ?_)
  · have hf := gn hf c1
    refine g_aload_n E 0 dX9_quarters_18 rfl rfl ?_
    refine g_get (C := RX9) (T := TX9) (N := 20) (ci := 9) E 0 1 (.ref (k.2.2.2.1 2)) hi_X9_quarters_X9 (mwG0 _ _) rfl (by decide) hk_X9_quarters_13 rfl dX9_quarters_19 ?_
    refine g_iload_n E 1 dX9_quarters_22 rfl rfl ?_
    obtain ⟨hi2, hf⟩ := gd hf
    refine g_iald E 2 (σ.1 2) (mwG2 _ _) hi2 dX9_quarters_23 ?_
    have hf := Option.some.inj hf
    subst hf
    exact g_iret E dX9_quarters_24
  · have hf := gp hf c1
    refine g_iconst (v := (4 : Int32)) E dX9_quarters_5 (by decide) ?_
    refine g_iconst (v := (2 : Int32)) E dX9_quarters_6 (by decide) ?_
    refine g_aload_n E 0 dX9_quarters_7 rfl rfl ?_
    refine g_get (C := RX9) (T := TX9) (N := 20) (ci := 9) E 0 1 (.ref (k.2.2.2.1 2)) hi_X9_quarters_X9 (mwG0 _ _) rfl (by decide) hk_X9_quarters_13 rfl dX9_quarters_8 ?_
    refine g_iload_n E 1 dX9_quarters_11 rfl rfl ?_
    obtain ⟨hi3, hf⟩ := gd hf
    refine g_iald E 2 (σ.1 2) (mwG2 _ _) hi3 dX9_quarters_12 ?_
    refine g_imul E dX9_quarters_13 ?_
    refine g_isub E dX9_quarters_14 ?_
    refine g_goto (tgt := 24) E dX9_quarters_15 (by decide) ?_
    have hf := Option.some.inj hf
    subst hf
    exact g_iret E dX9_quarters_24
theorem hi_X9_tieWith_X9 : ∀ w ∈ wsX90, w ∈ wsX9_tieWith := by decide +kernel
theorem hk_X9_tieWith_25 : Cond.fieldLink RX9 25 "PaperMarksModel" "writers" "[I" ∈ wsX9_tieWith := by decide +kernel
theorem hk_X9_tieWith_19 : Cond.fieldLink RX9 19 "PaperMarksModel" "ties" "[I" ∈ wsX9_tieWith := by decide +kernel
def rm_fX9_tieWith : Room := { frames := 0, cells := 0, slots := 0, locals := 0 }
set_option maxHeartbeats 4000000 in
set_option maxRecDepth 100000 in
theorem fX9_tieWith_c (k : gK) (σ : St) (x1 : Int32) (x2 : Int32) (r : Int32 × St) (hf : fX9_tieWith σ x1 x2 = some r) : MC k yX9_tieWith wsX9_tieWith rm_fX9_tieWith [.ref (k.2.2.2.1 0), .int x1, .int x2] (mw k.2.2.2 σ) (some (.int r.1)) (mw k.2.2.2 r.2) := by
  refine MC_of (cc := cX9_tieWith) (maxL := 3) (ret := (some .int)) (own := RX9) (lvs := [(0, .ref (k.2.2.2.1 0)), (1, .int x1), (2, .int x2)]) (by decide) rfl rfl (Nat.le_of_ble_eq_true rfl) rfl (fun X E => ?_)
  unfold fX9_tieWith at hf
  refine g_aload_n E 0 dX9_tieWith_0 rfl rfl ?_
  refine g_get (C := RX9) (T := TX9) (N := 20) (ci := 9) E 0 6 (.ref (k.2.2.2.1 6)) hi_X9_tieWith_X9 (mwG0 _ _) rfl (by decide) hk_X9_tieWith_25 rfl dX9_tieWith_1 ?_
  refine g_iload_n E 2 dX9_tieWith_4 rfl rfl ?_
  obtain ⟨hi1, hf⟩ := gd hf
  refine g_iald E 6 (σ.1 6) (mwG6 _ _) hi1 dX9_tieWith_5 ?_
  refine g_bipush (v := (-6 : Int32)) E dX9_tieWith_6 (by decide) ?_
  refine g_icmp_ne (tgt := 15) E dX9_tieWith_8 (by decide) (fun c2 => ?_) (fun c2 => ?_)
  · have hf := gn hf c2
    refine g_aload_n E 0 dX9_tieWith_15 rfl rfl ?_
    refine g_get (C := RX9) (T := TX9) (N := 20) (ci := 9) E 0 4 (.ref (k.2.2.2.1 4)) hi_X9_tieWith_X9 (mwG0 _ _) rfl (by decide) hk_X9_tieWith_19 rfl dX9_tieWith_16 ?_
    refine g_bipush (v := (6 : Int32)) E dX9_tieWith_19 (by decide) ?_
    refine g_iload_n E 1 dX9_tieWith_21 rfl rfl ?_
    refine g_imul E dX9_tieWith_22 ?_
    refine g_aload_n E 0 dX9_tieWith_23 rfl rfl ?_
    refine g_get (C := RX9) (T := TX9) (N := 20) (ci := 9) E 0 6 (.ref (k.2.2.2.1 6)) hi_X9_tieWith_X9 (mwG0 _ _) rfl (by decide) hk_X9_tieWith_25 rfl dX9_tieWith_24 ?_
    refine g_iload_n E 2 dX9_tieWith_27 rfl rfl ?_
    obtain ⟨hi3, hf⟩ := gd hf
    refine g_iald E 6 (σ.1 6) (mwG6 _ _) hi3 dX9_tieWith_28 ?_
    refine g_iadd E dX9_tieWith_29 ?_
    obtain ⟨hi4, hf⟩ := gd hf
    refine g_iald E 4 (σ.1 4) (mwG4 _ _) hi4 dX9_tieWith_30 ?_
    have hf := Option.some.inj hf
    subst hf
    exact g_iret E dX9_tieWith_31
  · have hf := gp hf c2
    refine g_iconst (v := (0 : Int32)) E dX9_tieWith_11 (by decide) ?_
    refine g_goto (tgt := 31) E dX9_tieWith_12 (by decide) ?_
    have hf := Option.some.inj hf
    subst hf
    exact g_iret E dX9_tieWith_31
def rm_fX9_within : Room := { frames := 0, cells := 0, slots := 0, locals := 0 }
set_option maxHeartbeats 4000000 in
set_option maxRecDepth 100000 in
theorem fX9_within_c (k : gK) (σ : St) (x0 : Int32) (r : Int32 × St) (hf : fX9_within σ x0 = some r) : MC k yX9_within wsX9_within rm_fX9_within [.int x0] (mw k.2.2.2 σ) (some (.int r.1)) (mw k.2.2.2 r.2) := by
  refine MC_of (cc := cX9_within) (maxL := 1) (ret := (some .int)) (own := RX9) (lvs := [(0, .int x0)]) (by decide) rfl rfl (Nat.le_of_ble_eq_true rfl) rfl (fun X E => ?_)
  unfold fX9_within at hf
  refine g_iload_n E 0 dX9_within_0 rfl rfl ?_
  refine g_if_ge (tgt := 8) E dX9_within_1 (by decide) (fun c1 => ?_) (fun c1 => ?_)
  · have hf := gp hf c1
    refine g_iload_n E 0 dX9_within_8 rfl rfl ?_
    refine g_iconst (v := (5 : Int32)) E dX9_within_9 (by decide) ?_
    refine g_icmp_le (tgt := 17) E dX9_within_10 (by decide) (fun c2 => ?_) (fun c2 => ?_)
    · have hf := gp hf c2
      refine g_iload_n E 0 dX9_within_17 rfl rfl ?_
      have hf := Option.some.inj hf
      subst hf
      exact g_iret E dX9_within_18
    · have hf := gn hf c2
      refine g_iconst (v := (5 : Int32)) E dX9_within_13 (by decide) ?_
      refine g_goto (tgt := 18) E dX9_within_14 (by decide) ?_
      have hf := Option.some.inj hf
      subst hf
      exact g_iret E dX9_within_18
  · have hf := gn hf c1
    refine g_iconst (v := (0 : Int32)) E dX9_within_4 (by decide) ?_
    refine g_goto (tgt := 18) E dX9_within_5 (by decide) ?_
    have hf := Option.some.inj hf
    subst hf
    exact g_iret E dX9_within_18
theorem hi_X9_markOf_X9 : ∀ w ∈ wsX90, w ∈ wsX9_markOf := by decide +kernel
theorem hk_X9_markOf_7 : Cond.fieldLink RX9 7 "PaperMarksModel" "leans" "[I" ∈ wsX9_markOf := by decide +kernel
def rm_fX9_markOf : Room := { frames := 1, cells := 0, slots := 0, locals := 22 }
set_option maxHeartbeats 4000000 in
set_option maxRecDepth 100000 in
theorem fX9_markOf_c (k : gK) (σ : St) (x1 : Int32) (x2 : Int32) (x3 : Int32) (x4 : Int32) (r : Int32 × St) (hf : fX9_markOf σ x1 x2 x3 x4 = some r) : MC k yX9_markOf wsX9_markOf rm_fX9_markOf [.ref (k.2.2.2.1 0), .int x1, .int x2, .int x3, .int x4] (mw k.2.2.2 σ) (some (.int r.1)) (mw k.2.2.2 r.2) := by
  refine MC_of (cc := cX9_markOf) (maxL := 5) (ret := (some .int)) (own := RX9) (lvs := [(0, .ref (k.2.2.2.1 0)), (1, .int x1), (2, .int x2), (3, .int x3), (4, .int x4)]) (by decide) rfl rfl (Nat.le_of_ble_eq_true rfl) rfl (fun X E => ?_)
  unfold fX9_markOf at hf
  refine g_iload_n E 3 dX9_markOf_0 rfl rfl ?_
  refine g_aload_n E 0 dX9_markOf_1 rfl rfl ?_
  refine g_get (C := RX9) (T := TX9) (N := 20) (ci := 9) E 0 0 (.ref (k.2.2.2.1 1)) hi_X9_markOf_X9 (mwG0 _ _) rfl (by decide) hk_X9_markOf_7 rfl dX9_markOf_2 ?_
  refine g_iload_n E 1 dX9_markOf_5 rfl rfl ?_
  obtain ⟨hi1, hf⟩ := gd hf
  refine g_iald E 1 (σ.1 1) (mwG1 _ _) hi1 dX9_markOf_6 ?_
  refine g_iadd E dX9_markOf_7 ?_
  refine g_aload_n E 0 dX9_markOf_8 rfl rfl ?_
  refine g_iload_n E 1 dX9_markOf_9 rfl rfl ?_
  refine g_iload_n E 2 dX9_markOf_10 rfl rfl ?_
  obtain ⟨q2, hq3, hf⟩ := gb hf
  refine g_callV (C := RX9) (T := TX9) (N := 20) (ci := 9) (As := [.int x1, .int x2]) (rest := [.int (x3 + (σ.1 1 x1.toNatClampNeg))]) (n := 2) E 0 (fX9_tieWith_c k σ x1 x2 q2 hq3) gX9_markOf_X9_tieWith rfl rfl rfl (by decide +kernel) ⟨Nat.le_of_ble_eq_true rfl, Nat.le_of_ble_eq_true rfl⟩ rfl rfl (Nat.le_of_ble_eq_true rfl) rfl (mwG0 _ _) dX9_markOf_11 ?_
  refine g_iadd E dX9_markOf_14 ?_
  refine g_iload E 4 dX9_markOf_15 rfl ?_
  refine g_iadd E dX9_markOf_17 ?_
  refine g_iconst (v := (1 : Int32)) E dX9_markOf_18 (by decide) ?_
  refine g_isub E dX9_markOf_19 ?_
  obtain ⟨q4, hq5, hf⟩ := gb hf
  refine g_callS (As := [.int (((((((x3 + (σ.1 1 x1.toNatClampNeg))) + q2.1)) + x4)) - (1 : Int32))]) (rest := []) (n := 1) E (fX9_within_c k q2.2 ((((((((x3 + (σ.1 1 x1.toNatClampNeg))) + q2.1)) + x4)) - (1 : Int32))) q4 hq5) gX9_markOf_X9_within rfl rfl rfl (by decide +kernel) ⟨Nat.le_of_ble_eq_true rfl, Nat.le_of_ble_eq_true rfl⟩ rfl rfl (Nat.le_of_ble_eq_true rfl) dX9_markOf_20 ?_
  have hf := Option.some.inj hf
  subst hf
  exact g_iret E dX9_markOf_23
theorem hi_X9_without_X9 : ∀ w ∈ wsX90, w ∈ wsX9_without := by decide +kernel
theorem hk_X9_without_25 : Cond.fieldLink RX9 25 "PaperMarksModel" "writers" "[I" ∈ wsX9_without := by decide +kernel
def rm_fX9_without : Room := { frames := 0, cells := 0, slots := 0, locals := 0 }
set_option maxHeartbeats 4000000 in
set_option maxRecDepth 100000 in
theorem fX9_without_c (k : gK) (σ : St) (x1 : Int32) (x2 : Int32) (r : Int32 × St) (hf : fX9_without σ x1 x2 = some r) : MC k yX9_without wsX9_without rm_fX9_without [.ref (k.2.2.2.1 0), .int x1, .int x2] (mw k.2.2.2 σ) (some (.int r.1)) (mw k.2.2.2 r.2) := by
  refine MC_of (cc := cX9_without) (maxL := 3) (ret := (some .int)) (own := RX9) (lvs := [(0, .ref (k.2.2.2.1 0)), (1, .int x1), (2, .int x2)]) (by decide) rfl rfl (Nat.le_of_ble_eq_true rfl) rfl (fun X E => ?_)
  unfold fX9_without at hf
  refine g_aload_n E 0 dX9_without_0 rfl rfl ?_
  refine g_get (C := RX9) (T := TX9) (N := 20) (ci := 9) E 0 6 (.ref (k.2.2.2.1 6)) hi_X9_without_X9 (mwG0 _ _) rfl (by decide) hk_X9_without_25 rfl dX9_without_1 ?_
  refine g_iload_n E 1 dX9_without_4 rfl rfl ?_
  obtain ⟨hi1, hf⟩ := gd hf
  refine g_iald E 6 (σ.1 6) (mwG6 _ _) hi1 dX9_without_5 ?_
  refine g_bipush (v := (-6 : Int32)) E dX9_without_6 (by decide) ?_
  refine g_icmp_ne (tgt := 15) E dX9_without_8 (by decide) (fun c2 => ?_) (fun c2 => ?_)
  · have hf := gn hf c2
    refine g_iload_n E 2 dX9_without_15 rfl rfl ?_
    refine g_iconst (v := (1 : Int32)) E dX9_without_16 (by decide) ?_
    refine g_aload_n E 0 dX9_without_17 rfl rfl ?_
    refine g_get (C := RX9) (T := TX9) (N := 20) (ci := 9) E 0 6 (.ref (k.2.2.2.1 6)) hi_X9_without_X9 (mwG0 _ _) rfl (by decide) hk_X9_without_25 rfl dX9_without_18 ?_
    refine g_iload_n E 1 dX9_without_21 rfl rfl ?_
    obtain ⟨hi3, hf⟩ := gd hf
    refine g_iald E 6 (σ.1 6) (mwG6 _ _) hi3 dX9_without_22 ?_
    refine g_ishl E dX9_without_23 ?_
    refine g_iconst (v := (-1 : Int32)) E dX9_without_24 (by decide) ?_
    refine g_ixor E dX9_without_25 ?_
    refine g_iand E dX9_without_26 ?_
    have hf := Option.some.inj hf
    subst hf
    exact g_iret E dX9_without_27
  · have hf := gp hf c2
    refine g_iload_n E 2 dX9_without_11 rfl rfl ?_
    refine g_goto (tgt := 27) E dX9_without_12 (by decide) ?_
    have hf := Option.some.inj hf
    subst hf
    exact g_iret E dX9_without_27
