theorem hi_X9_tie_X9 : ∀ w ∈ wsX90, w ∈ wsX9_tie := by decide +kernel
theorem hk_X9_tie_19 : Cond.fieldLink RX9 19 "PaperMarksModel" "ties" "[I" ∈ wsX9_tie := by decide +kernel
def rm_fX9_tie : Room := { frames := 2, cells := 0, slots := 0, locals := 46 }
set_option maxHeartbeats 4000000 in
set_option maxRecDepth 100000 in
theorem fX9_tie_c (k : gK) (σ : St) (x1 : Int32) (x2 : Int32) (x3 : Int32) (r : Int32 × St) (hf : fX9_tie σ x1 x2 x3 = some r) : MC k yX9_tie wsX9_tie rm_fX9_tie [.ref (k.2.2.2.1 0), .int x1, .int x2, .int x3] (mw k.2.2.2 σ) (some (.int r.1)) (mw k.2.2.2 r.2) := by
  refine MC_of (cc := cX9_tie) (maxL := 5) (ret := (some .int)) (own := RX9) (lvs := [(0, .ref (k.2.2.2.1 0)), (1, .int x1), (2, .int x2), (3, .int x3)]) (by decide) rfl rfl (Nat.le_of_ble_eq_true rfl) rfl (fun X E => ?_)
  unfold fX9_tie at hf
  refine g_aload_n E 0 dX9_tie_0 rfl rfl ?_
  refine g_iload_n E 1 dX9_tie_1 rfl rfl ?_
  obtain ⟨q1, hq2, hf⟩ := gb hf
  refine g_callV (C := RX9) (T := TX9) (N := 20) (ci := 9) (As := [.int x1]) (rest := []) (n := 1) E 0 (fX9_isJudge_c k σ x1 q1 hq2) gX9_tie_X9_isJudge rfl rfl rfl (by decide +kernel) ⟨Nat.le_of_ble_eq_true rfl, Nat.le_of_ble_eq_true rfl⟩ rfl rfl (Nat.le_of_ble_eq_true rfl) rfl (mwG0 _ _) dX9_tie_2 ?_
  refine g_if_eq (tgt := 21) E dX9_tie_5 (by decide) (fun c3 => ?_) (fun c3 => ?_)
  · have hf := gp hf c3
    refine g_iconst (v := (-1 : Int32)) E dX9_tie_21 (by decide) ?_
    have hf := Option.some.inj hf
    subst hf
    exact g_iret E dX9_tie_22
  · have hf := gn hf c3
    refine g_aload_n E 0 dX9_tie_8 rfl rfl ?_
    refine g_iload_n E 2 dX9_tie_9 rfl rfl ?_
    obtain ⟨q4, hq5, hf⟩ := gb hf
    refine g_callV (C := RX9) (T := TX9) (N := 20) (ci := 9) (As := [.int x2]) (rest := []) (n := 1) E 0 (fX9_isJudge_c k q1.2 x2 q4 hq5) gX9_tie_X9_isJudge rfl rfl rfl (by decide +kernel) ⟨Nat.le_of_ble_eq_true rfl, Nat.le_of_ble_eq_true rfl⟩ rfl rfl (Nat.le_of_ble_eq_true rfl) rfl (mwG0 _ _) dX9_tie_10 ?_
    refine g_if_eq (tgt := 21) E dX9_tie_13 (by decide) (fun c6 => ?_) (fun c6 => ?_)
    · have hf := gp hf c6
      refine g_iconst (v := (-1 : Int32)) E dX9_tie_21 (by decide) ?_
      have hf := Option.some.inj hf
      subst hf
      exact g_iret E dX9_tie_22
    · have hf := gn hf c6
      refine g_iload_n E 1 dX9_tie_16 rfl rfl ?_
      refine g_iload_n E 2 dX9_tie_17 rfl rfl ?_
      refine g_icmp_ne (tgt := 23) E dX9_tie_18 (by decide) (fun c7 => ?_) (fun c7 => ?_)
      · have hf := gn hf c7
        refine g_iload_n E 3 dX9_tie_23 rfl rfl ?_
        refine g_i2l E dX9_tie_24 ?_
        refine g_ldc2 (v := (-1 : Int64)) E (by decide +kernel) dX9_tie_25 ?_
        refine g_lconst (v := (1 : Int64)) E dX9_tie_28 (by decide) ?_
        obtain ⟨q8, hq9, hf⟩ := gb hf
        refine g_callS (As := [.long x3.toInt64, .long (-1 : Int64), .long (1 : Int64)]) (rest := []) (n := 3) E (fX9_in_c k q4.2 x3.toInt64 (-1 : Int64) (1 : Int64) q8 hq9) gX9_tie_X9_in rfl rfl rfl (by decide +kernel) ⟨Nat.le_of_ble_eq_true rfl, Nat.le_of_ble_eq_true rfl⟩ rfl rfl (Nat.le_of_ble_eq_true rfl) dX9_tie_29 ?_
        refine g_if_ne (tgt := 38) E dX9_tie_32 (by decide) (fun c10 => ?_) (fun c10 => ?_)
        · have hf := gn hf c10
          refine g_aload_n E 0 dX9_tie_38 rfl rfl ?_
          refine g_get (C := RX9) (T := TX9) (N := 20) (ci := 9) E 0 4 (.ref (k.2.2.2.1 4)) hi_X9_tie_X9 (mwG0 _ _) rfl (by decide) hk_X9_tie_19 rfl dX9_tie_39 ?_
          refine g_bipush (v := (6 : Int32)) E dX9_tie_42 (by decide) ?_
          refine g_iload_n E 1 dX9_tie_44 rfl rfl ?_
          refine g_imul E dX9_tie_45 ?_
          refine g_iload_n E 2 dX9_tie_46 rfl rfl ?_
          refine g_iadd E dX9_tie_47 ?_
          obtain ⟨hi11, hf⟩ := gd hf
          refine g_iald E 4 (q8.2.1 4) (mwG4 _ _) hi11 dX9_tie_48 ?_
          refine g_istore E [(4, .int (q8.2.1 4 (((((6 : Int32) * x1)) + x2)).toNatClampNeg)), (0, .ref (k.2.2.2.1 0)), (1, .int x1), (2, .int x2), (3, .int x3)] dX9_tie_49 (by decide) rfl ?_
          refine g_aload_n E 1 dX9_tie_51 rfl rfl ?_
          refine g_get (C := RX9) (T := TX9) (N := 20) (ci := 9) E 0 4 (.ref (k.2.2.2.1 4)) hi_X9_tie_X9 (mwG0 _ _) rfl (by decide) hk_X9_tie_19 rfl dX9_tie_52 ?_
          refine g_bipush (v := (6 : Int32)) E dX9_tie_55 (by decide) ?_
          refine g_iload_n E 2 dX9_tie_57 rfl rfl ?_
          refine g_imul E dX9_tie_58 ?_
          refine g_iload_n E 3 dX9_tie_59 rfl rfl ?_
          refine g_iadd E dX9_tie_60 ?_
          refine g_iload_n E 4 dX9_tie_61 rfl rfl ?_
          obtain ⟨hi12, hf⟩ := gd hf
          refine g_iast E 4 (mw k.2.2.2 (uA q8.2 4 (((((6 : Int32) * x1)) + x2)).toNatClampNeg x3)) (q8.2.1 4) (mwG4 _ _) hi12 (mwA4 _ _ _ _) dX9_tie_62 ?_
          refine g_aload_n E 1 dX9_tie_63 rfl rfl ?_
          refine g_get (C := RX9) (T := TX9) (N := 20) (ci := 9) E 0 4 (.ref (k.2.2.2.1 4)) hi_X9_tie_X9 (mwG0 _ _) rfl (by decide) hk_X9_tie_19 rfl dX9_tie_64 ?_
          refine g_bipush (v := (6 : Int32)) E dX9_tie_67 (by decide) ?_
          refine g_iload_n E 3 dX9_tie_69 rfl rfl ?_
          refine g_imul E dX9_tie_70 ?_
          refine g_iload_n E 2 dX9_tie_71 rfl rfl ?_
          refine g_iadd E dX9_tie_72 ?_
          refine g_iload_n E 4 dX9_tie_73 rfl rfl ?_
          obtain ⟨hi13, hf⟩ := gd hf
          refine g_iast E 4 (mw k.2.2.2 (uA ((uA q8.2 4 (((((6 : Int32) * x1)) + x2)).toNatClampNeg x3)) 4 (((((6 : Int32) * x2)) + x1)).toNatClampNeg x3)) (((uA q8.2 4 (((((6 : Int32) * x1)) + x2)).toNatClampNeg x3)).1 4) (mwG4 _ _) hi13 (mwA4 _ _ _ _) dX9_tie_74 ?_
          refine g_iload E 0 dX9_tie_75 rfl ?_
          refine g_bipush (v := (10 : Int32)) E dX9_tie_77 (by decide) ?_
          refine g_iadd E dX9_tie_79 ?_
          have hf := Option.some.inj hf
          subst hf
          exact g_iret E dX9_tie_80
        · have hf := gp hf c10
          refine g_bipush (v := (-2 : Int32)) E dX9_tie_35 (by decide) ?_
          have hf := Option.some.inj hf
          subst hf
          exact g_iret E dX9_tie_37
      · have hf := gp hf c7
        refine g_iconst (v := (-1 : Int32)) E dX9_tie_21 (by decide) ?_
        have hf := Option.some.inj hf
        subst hf
        exact g_iret E dX9_tie_22
theorem hi_X9_isPaper_X9 : ∀ w ∈ wsX90, w ∈ wsX9_isPaper := by decide +kernel
theorem hk_X9_isPaper_67 : Cond.fieldLink RX9 67 "PaperMarksModel" "papers" "I" ∈ wsX9_isPaper := by decide +kernel
def rm_fX9_isPaper : Room := { frames := 1, cells := 0, slots := 0, locals := 25 }
set_option maxHeartbeats 4000000 in
set_option maxRecDepth 100000 in
theorem fX9_isPaper_c (k : gK) (σ : St) (x1 : Int32) (r : Int32 × St) (hf : fX9_isPaper σ x1 = some r) : MC k yX9_isPaper wsX9_isPaper rm_fX9_isPaper [.ref (k.2.2.2.1 0), .int x1] (mw k.2.2.2 σ) (some (.int r.1)) (mw k.2.2.2 r.2) := by
  refine MC_of (cc := cX9_isPaper) (maxL := 2) (ret := (some .boolean)) (own := RX9) (lvs := [(0, .ref (k.2.2.2.1 0)), (1, .int x1)]) (by decide) rfl rfl (Nat.le_of_ble_eq_true rfl) rfl (fun X E => ?_)
  unfold fX9_isPaper at hf
  refine g_iload_n E 1 dX9_isPaper_0 rfl rfl ?_
  refine g_i2l E dX9_isPaper_1 ?_
  refine g_lconst (v := (0 : Int64)) E dX9_isPaper_2 (by decide) ?_
  refine g_aload_n E 0 dX9_isPaper_3 rfl rfl ?_
  refine g_get (C := RX9) (T := TX9) (N := 20) (ci := 9) E 0 9 (.int (σ.2.1 1)) hi_X9_isPaper_X9 (mwG0 _ _) rfl (by decide) hk_X9_isPaper_67 rfl dX9_isPaper_4 ?_
  refine g_iconst (v := (1 : Int32)) E dX9_isPaper_7 (by decide) ?_
  refine g_isub E dX9_isPaper_8 ?_
  refine g_i2l E dX9_isPaper_9 ?_
  obtain ⟨q1, hq2, hf⟩ := gb hf
  refine g_callS (As := [.long x1.toInt64, .long (0 : Int64), .long (((σ.2.1 1) - (1 : Int32))).toInt64]) (rest := []) (n := 3) E (fX9_in_c k σ x1.toInt64 (0 : Int64) ((((σ.2.1 1) - (1 : Int32))).toInt64) q1 hq2) gX9_isPaper_X9_in rfl rfl rfl (by decide +kernel) ⟨Nat.le_of_ble_eq_true rfl, Nat.le_of_ble_eq_true rfl⟩ rfl rfl (Nat.le_of_ble_eq_true rfl) dX9_isPaper_10 ?_
  obtain ⟨hv3, hf⟩ := gd hf
  have hf := Option.some.inj hf
  subst hf
  exact g_zret E hv3 dX9_isPaper_13
theorem hi_X9_mark_X9 : ∀ w ∈ wsX90, w ∈ wsX9_mark := by decide +kernel
theorem hk_X9_mark_25 : Cond.fieldLink RX9 25 "PaperMarksModel" "writers" "[I" ∈ wsX9_mark := by decide +kernel
theorem hk_X9_mark_34 : Cond.fieldLink RX9 34 "PaperMarksModel" "marks" "[I" ∈ wsX9_mark := by decide +kernel
def rm_fX9_mark : Room := { frames := 2, cells := 0, slots := 0, locals := 46 }
set_option maxHeartbeats 4000000 in
set_option maxRecDepth 100000 in
theorem fX9_mark_c (k : gK) (σ : St) (x1 : Int32) (x2 : Int32) (x3 : Int32) (r : Int32 × St) (hf : fX9_mark σ x1 x2 x3 = some r) : MC k yX9_mark wsX9_mark rm_fX9_mark [.ref (k.2.2.2.1 0), .int x1, .int x2, .int x3] (mw k.2.2.2 σ) (some (.int r.1)) (mw k.2.2.2 r.2) := by
  refine MC_of (cc := cX9_mark) (maxL := 5) (ret := (some .int)) (own := RX9) (lvs := [(0, .ref (k.2.2.2.1 0)), (1, .int x1), (2, .int x2), (3, .int x3)]) (by decide) rfl rfl (Nat.le_of_ble_eq_true rfl) rfl (fun X E => ?_)
  unfold fX9_mark at hf
  refine g_aload_n E 0 dX9_mark_0 rfl rfl ?_
  refine g_iload_n E 1 dX9_mark_1 rfl rfl ?_
  obtain ⟨q1, hq2, hf⟩ := gb hf
  refine g_callV (C := RX9) (T := TX9) (N := 20) (ci := 9) (As := [.int x1]) (rest := []) (n := 1) E 0 (fX9_isJudge_c k σ x1 q1 hq2) gX9_mark_X9_isJudge rfl rfl rfl (by decide +kernel) ⟨Nat.le_of_ble_eq_true rfl, Nat.le_of_ble_eq_true rfl⟩ rfl rfl (Nat.le_of_ble_eq_true rfl) rfl (mwG0 _ _) dX9_mark_2 ?_
  refine g_if_eq (tgt := 16) E dX9_mark_5 (by decide) (fun c3 => ?_) (fun c3 => ?_)
  · have hf := gp hf c3
    refine g_iconst (v := (-1 : Int32)) E dX9_mark_16 (by decide) ?_
    have hf := Option.some.inj hf
    subst hf
    exact g_iret E dX9_mark_17
  · have hf := gn hf c3
    refine g_aload_n E 0 dX9_mark_8 rfl rfl ?_
    refine g_iload_n E 2 dX9_mark_9 rfl rfl ?_
    obtain ⟨q4, hq5, hf⟩ := gb hf
    refine g_callV (C := RX9) (T := TX9) (N := 20) (ci := 9) (As := [.int x2]) (rest := []) (n := 1) E 0 (fX9_isPaper_c k q1.2 x2 q4 hq5) gX9_mark_X9_isPaper rfl rfl rfl (by decide +kernel) ⟨Nat.le_of_ble_eq_true rfl, Nat.le_of_ble_eq_true rfl⟩ rfl rfl (Nat.le_of_ble_eq_true rfl) rfl (mwG0 _ _) dX9_mark_10 ?_
    refine g_if_ne (tgt := 18) E dX9_mark_13 (by decide) (fun c6 => ?_) (fun c6 => ?_)
    · have hf := gn hf c6
      refine g_iload_n E 3 dX9_mark_18 rfl rfl ?_
      refine g_i2l E dX9_mark_19 ?_
      refine g_ldc2 (v := (-1 : Int64)) E (by decide +kernel) dX9_mark_20 ?_
      refine g_ldc2 (v := (5 : Int64)) E (by decide +kernel) dX9_mark_23 ?_
      obtain ⟨q7, hq8, hf⟩ := gb hf
      refine g_callS (As := [.long x3.toInt64, .long (-1 : Int64), .long (5 : Int64)]) (rest := []) (n := 3) E (fX9_in_c k q4.2 x3.toInt64 (-1 : Int64) (5 : Int64) q7 hq8) gX9_mark_X9_in rfl rfl rfl (by decide +kernel) ⟨Nat.le_of_ble_eq_true rfl, Nat.le_of_ble_eq_true rfl⟩ rfl rfl (Nat.le_of_ble_eq_true rfl) dX9_mark_26 ?_
      refine g_if_ne (tgt := 35) E dX9_mark_29 (by decide) (fun c9 => ?_) (fun c9 => ?_)
      · have hf := gn hf c9
        refine g_aload_n E 0 dX9_mark_35 rfl rfl ?_
        refine g_get (C := RX9) (T := TX9) (N := 20) (ci := 9) E 0 6 (.ref (k.2.2.2.1 6)) hi_X9_mark_X9 (mwG0 _ _) rfl (by decide) hk_X9_mark_25 rfl dX9_mark_36 ?_
        refine g_iload_n E 2 dX9_mark_39 rfl rfl ?_
        obtain ⟨hi10, hf⟩ := gd hf
        refine g_iald E 6 (q7.2.1 6) (mwG6 _ _) hi10 dX9_mark_40 ?_
        refine g_iload_n E 1 dX9_mark_41 rfl rfl ?_
        refine g_icmp_ne (tgt := 48) E dX9_mark_42 (by decide) (fun c11 => ?_) (fun c11 => ?_)
        · have hf := gn hf c11
          refine g_aload_n E 0 dX9_mark_48 rfl rfl ?_
          refine g_get (C := RX9) (T := TX9) (N := 20) (ci := 9) E 0 10 (.ref (k.2.2.2.1 9)) hi_X9_mark_X9 (mwG0 _ _) rfl (by decide) hk_X9_mark_34 rfl dX9_mark_49 ?_
          refine g_iload_n E 1 dX9_mark_52 rfl rfl ?_
          refine g_iload_n E 2 dX9_mark_53 rfl rfl ?_
          obtain ⟨q12, hq13, hf⟩ := gb hf
          refine g_callS (As := [.int x1, .int x2]) (rest := [.ref (k.2.2.2.1 9)]) (n := 2) E (fX9_at_c k q7.2 x1 x2 q12 hq13) gX9_mark_X9_at rfl rfl rfl (by decide +kernel) ⟨Nat.le_of_ble_eq_true rfl, Nat.le_of_ble_eq_true rfl⟩ rfl rfl (Nat.le_of_ble_eq_true rfl) dX9_mark_54 ?_
          obtain ⟨hi14, hf⟩ := gd hf
          refine g_iald E 9 (q12.2.1 9) (mwG9 _ _) hi14 dX9_mark_57 ?_
          refine g_istore E [(4, .int (q12.2.1 9 q12.1.toNatClampNeg)), (0, .ref (k.2.2.2.1 0)), (1, .int x1), (2, .int x2), (3, .int x3)] dX9_mark_58 (by decide) rfl ?_
          refine g_aload_n E 1 dX9_mark_60 rfl rfl ?_
          refine g_get (C := RX9) (T := TX9) (N := 20) (ci := 9) E 0 10 (.ref (k.2.2.2.1 9)) hi_X9_mark_X9 (mwG0 _ _) rfl (by decide) hk_X9_mark_34 rfl dX9_mark_61 ?_
          refine g_iload_n E 2 dX9_mark_64 rfl rfl ?_
          refine g_iload_n E 3 dX9_mark_65 rfl rfl ?_
          obtain ⟨q15, hq16, hf⟩ := gb hf
          refine g_callS (As := [.int x1, .int x2]) (rest := [.ref (k.2.2.2.1 9)]) (n := 2) E (fX9_at_c k q12.2 x1 x2 q15 hq16) gX9_mark_X9_at rfl rfl rfl (by decide +kernel) ⟨Nat.le_of_ble_eq_true rfl, Nat.le_of_ble_eq_true rfl⟩ rfl rfl (Nat.le_of_ble_eq_true rfl) dX9_mark_66 ?_
          refine g_iload_n E 4 dX9_mark_69 rfl rfl ?_
          refine g_if_ge (tgt := 78) E dX9_mark_70 (by decide) (fun c17 => ?_) (fun c17 => ?_)
          · have hf := gp hf c17
            refine g_iload_n E 4 dX9_mark_78 rfl rfl ?_
            obtain ⟨hi18, hf⟩ := gd hf
            refine g_iast E 9 (mw k.2.2.2 (uA q15.2 9 q15.1.toNatClampNeg x3)) (q15.2.1 9) (mwG9 _ _) hi18 (mwA9 _ _ _ _) dX9_mark_79 ?_
            refine g_iload E 0 dX9_mark_80 rfl ?_
            have hf := Option.some.inj hf
            subst hf
            exact g_iret E dX9_mark_82
          · have hf := gn hf c17
            refine g_bipush (v := (-6 : Int32)) E dX9_mark_73 (by decide) ?_
            refine g_goto (tgt := 79) E dX9_mark_75 (by decide) ?_
            obtain ⟨hi19, hf⟩ := gd hf
            refine g_iast E 9 (mw k.2.2.2 (uA q15.2 9 q15.1.toNatClampNeg (-6 : Int32))) (q15.2.1 9) (mwG9 _ _) hi19 (mwA9 _ _ _ _) dX9_mark_79 ?_
            refine g_iload E 0 dX9_mark_80 rfl ?_
            have hf := Option.some.inj hf
            subst hf
            exact g_iret E dX9_mark_82
        · have hf := gp hf c11
          refine g_bipush (v := (-5 : Int32)) E dX9_mark_45 (by decide) ?_
          have hf := Option.some.inj hf
          subst hf
          exact g_iret E dX9_mark_47
      · have hf := gp hf c9
        refine g_bipush (v := (-2 : Int32)) E dX9_mark_32 (by decide) ?_
        have hf := Option.some.inj hf
        subst hf
        exact g_iret E dX9_mark_34
    · have hf := gp hf c6
      refine g_iconst (v := (-1 : Int32)) E dX9_mark_16 (by decide) ?_
      have hf := Option.some.inj hf
      subst hf
      exact g_iret E dX9_mark_17
