theorem hi_X8_seen_X8 : ∀ w ∈ wsX80, w ∈ wsX8_seen := by decide +kernel
theorem hi_X8_seen_X4 : ∀ w ∈ wsX40, w ∈ wsX8_seen := by decide +kernel
theorem hk_X8_seen_19 : Cond.fieldLink RX8 19 "PaperMarks" "papers" "LPaperMarks$Papers;" ∈ wsX8_seen := by decide +kernel
theorem hk_X8_seen_10 : Cond.fieldLink RX8 10 "PaperMarks" "judges" "LPaperMarks$Judges;" ∈ wsX8_seen := by decide +kernel
theorem hk_X8_seen_101 : Cond.fieldLink RX8 101 "PaperMarks$Papers" "keys" "[I" ∈ wsX8_seen := by decide +kernel
theorem hk_X8_seen_83 : Cond.fieldLink RX8 83 "PaperMarks$Papers" "writers" "[I" ∈ wsX8_seen := by decide +kernel
def rm_fX8_seen : Room := { frames := 1, cells := 0, slots := 0, locals := 23 }
set_option maxHeartbeats 4000000 in
set_option maxRecDepth 100000 in
theorem fX8_seen_c (k : gK) (σ : St) (x1 : Int32) (x2 : Int32) (r : Int32 × St) (hf : fX8_seen σ x1 x2 = some r) : MC k yX8_seen wsX8_seen rm_fX8_seen [.ref (k.2.2.2.1 0), .int x1, .int x2] (cw k.2.2.2 σ) (some (.int r.1)) (cw k.2.2.2 r.2) := by
  refine MC_of (cc := cX8_seen) (maxL := 5) (ret := (some .int)) (own := RX8) (lvs := [(0, .ref (k.2.2.2.1 0)), (1, .int x1), (2, .int x2)]) (by decide) rfl rfl (Nat.le_of_ble_eq_true rfl) rfl (fun X E => ?_)
  unfold fX8_seen at hf
  refine g_aload_n E 0 dX8_seen_0 rfl rfl ?_
  refine g_get (C := RX8) (T := TX8) (N := 7) (ci := 8) E 0 1 (.ref (k.2.2.2.1 2)) hi_X8_seen_X8 (cwG0 _ _) rfl (by decide) hk_X8_seen_19 rfl dX8_seen_1 ?_
  refine g_iload_n E 1 dX8_seen_4 rfl rfl ?_
  obtain ⟨q1, hq2, hf⟩ := gb hf
  refine g_callV (C := RX4) (T := TX4) (N := 6) (ci := 4) (As := [.int x1]) (rest := []) (n := 1) E 2 (fX4_has_c k σ x1 q1 hq2) gX8_seen_X4_has rfl rfl rfl (by decide +kernel) ⟨Nat.le_of_ble_eq_true rfl, Nat.le_of_ble_eq_true rfl⟩ rfl rfl (Nat.le_of_ble_eq_true rfl) rfl (cwG2 _ _) dX8_seen_5 ?_
  refine g_if_ne (tgt := 13) E dX8_seen_8 (by decide) (fun c3 => ?_) (fun c3 => ?_)
  · have hf := gn hf c3
    refine g_iload_n E 2 dX8_seen_13 rfl rfl ?_
    refine g_iconst (v := (0 : Int32)) E dX8_seen_14 (by decide) ?_
    refine g_iconst (v := (1 : Int32)) E dX8_seen_15 (by decide) ?_
    obtain ⟨q4, hq5, hf⟩ := gb hf
    refine g_callS (As := [.int x2, .int (0 : Int32), .int (1 : Int32)]) (rest := []) (n := 3) E (fX8_within_c k q1.2 x2 (0 : Int32) (1 : Int32) q4 hq5) gX8_seen_X8_within rfl rfl rfl (by decide +kernel) ⟨Nat.le_of_ble_eq_true rfl, Nat.le_of_ble_eq_true rfl⟩ rfl rfl (Nat.le_of_ble_eq_true rfl) dX8_seen_16 ?_
    refine g_if_ne (tgt := 25) E dX8_seen_19 (by decide) (fun c6 => ?_) (fun c6 => ?_)
    · have hf := gn hf c6
      refine g_aload_n E 0 dX8_seen_25 rfl rfl ?_
      refine g_get (C := RX8) (T := TX8) (N := 7) (ci := 8) E 0 0 (.ref (k.2.2.2.1 1)) hi_X8_seen_X8 (cwG0 _ _) rfl (by decide) hk_X8_seen_10 rfl dX8_seen_26 ?_
      refine g_aload_n E 0 dX8_seen_29 rfl rfl ?_
      refine g_get (C := RX8) (T := TX8) (N := 7) (ci := 8) E 0 1 (.ref (k.2.2.2.1 2)) hi_X8_seen_X8 (cwG0 _ _) rfl (by decide) hk_X8_seen_19 rfl dX8_seen_30 ?_
      refine g_get (C := RX4) (T := TX4) (N := 6) (ci := 4) E 2 2 (.ref (k.2.2.2.1 16)) hi_X8_seen_X4 (cwG2 _ _) rfl (by decide) hk_X8_seen_101 rfl dX8_seen_33 ?_
      refine g_iload_n E 1 dX8_seen_36 rfl rfl ?_
      obtain ⟨hi7, hf⟩ := gd hf
      refine g_iald E 16 (q4.2.1 16) (cwG16 _ _) hi7 dX8_seen_37 ?_
      obtain ⟨q8, hq9, hf⟩ := gb hf
      refine g_callV (C := RX0) (T := TX0) (N := 5) (ci := 0) (As := [.int (q4.2.1 16 x1.toNatClampNeg)]) (rest := []) (n := 1) E 1 (fX0_withKeys_c k q4.2 (q4.2.1 16 x1.toNatClampNeg) q8 hq9) gX8_seen_X0_withKeys rfl rfl rfl (by decide +kernel) ⟨Nat.le_of_ble_eq_true rfl, Nat.le_of_ble_eq_true rfl⟩ rfl rfl (Nat.le_of_ble_eq_true rfl) rfl (cwG1 _ _) dX8_seen_38 ?_
      refine g_istore_n E [(3, .int q8.1), (0, .ref (k.2.2.2.1 0)), (1, .int x1), (2, .int x2)] dX8_seen_41 rfl (by decide) rfl ?_
      refine g_iload_n E 3 dX8_seen_42 rfl rfl ?_
      refine g_if_ne (tgt := 48) E dX8_seen_43 (by decide) (fun c10 => ?_) (fun c10 => ?_)
      · have hf := gn hf c10
        refine g_aload_n E 1 dX8_seen_48 rfl rfl ?_
        refine g_get (C := RX8) (T := TX8) (N := 7) (ci := 8) E 0 1 (.ref (k.2.2.2.1 2)) hi_X8_seen_X8 (cwG0 _ _) rfl (by decide) hk_X8_seen_19 rfl dX8_seen_49 ?_
        refine g_get (C := RX4) (T := TX4) (N := 6) (ci := 4) E 2 1 (.ref (k.2.2.2.1 15)) hi_X8_seen_X4 (cwG2 _ _) rfl (by decide) hk_X8_seen_83 rfl dX8_seen_52 ?_
        refine g_iload_n E 2 dX8_seen_55 rfl rfl ?_
        obtain ⟨hi11, hf⟩ := gd hf
        refine g_iald E 15 (q8.2.1 15) (cwG15 _ _) hi11 dX8_seen_56 ?_
        refine g_istore E [(4, .int (q8.2.1 15 x1.toNatClampNeg)), (3, .int q8.1), (0, .ref (k.2.2.2.1 0)), (1, .int x1), (2, .int x2)] dX8_seen_57 (by decide) rfl ?_
        refine g_iload E 0 dX8_seen_59 rfl ?_
        refine g_bipush (v := (-6 : Int32)) E dX8_seen_61 (by decide) ?_
        refine g_icmp_eq (tgt := 78) E dX8_seen_63 (by decide) (fun c12 => ?_) (fun c12 => ?_)
        · have hf := gp hf c12
          refine g_iconst (v := (0 : Int32)) E dX8_seen_78 (by decide) ?_
          have hf := Option.some.inj hf
          subst hf
          exact g_iret E dX8_seen_79
        · have hf := gn hf c12
          refine g_iload_n E 1 dX8_seen_66 rfl rfl ?_
          refine g_iconst (v := (1 : Int32)) E dX8_seen_67 (by decide) ?_
          refine g_iload E 0 dX8_seen_68 rfl ?_
          refine g_ishl E dX8_seen_70 ?_
          refine g_icmp_ne (tgt := 78) E dX8_seen_71 (by decide) (fun c13 => ?_) (fun c13 => ?_)
          · have hf := gn hf c13
            refine g_iconst (v := (0 : Int32)) E dX8_seen_78 (by decide) ?_
            have hf := Option.some.inj hf
            subst hf
            exact g_iret E dX8_seen_79
          · have hf := gp hf c13
            refine g_iconst (v := (1 : Int32)) E dX8_seen_74 (by decide) ?_
            refine g_goto (tgt := 79) E dX8_seen_75 (by decide) ?_
            have hf := Option.some.inj hf
            subst hf
            exact g_iret E dX8_seen_79
      · have hf := gp hf c10
        refine g_iload_n E 0 dX8_seen_46 rfl rfl ?_
        have hf := Option.some.inj hf
        subst hf
        exact g_iret E dX8_seen_47
    · have hf := gp hf c6
      refine g_bipush (v := (-2 : Int32)) E dX8_seen_22 (by decide) ?_
      have hf := Option.some.inj hf
      subst hf
      exact g_iret E dX8_seen_24
  · have hf := gp hf c3
    refine g_iconst (v := (-1 : Int32)) E dX8_seen_11 (by decide) ?_
    have hf := Option.some.inj hf
    subst hf
    exact g_iret E dX8_seen_12
def rm_fX8_replace_18 : Room := { frames := 0, cells := 0, slots := 0, locals := 0 }
set_option maxHeartbeats 4000000 in
set_option maxRecDepth 100000 in
theorem fX8_replace_18_c (k : gK) (σ : St) (x1 : Int32) (x2 : Int32) (r : Int32 × St) (hf : fX8_replace_18 σ x1 x2 = some r) : MC k yX8_replace wsX8_replace rm_fX8_replace_18 [.ref (k.2.2.2.1 18), .int x1, .int x2] (cw k.2.2.2 σ) (some (.int r.1)) (cw k.2.2.2 r.2) := by
  refine MC_of (cc := cX8_replace) (maxL := 4) (ret := (some .int)) (own := RX8) (lvs := [(0, .ref (k.2.2.2.1 18)), (1, .int x1), (2, .int x2)]) (by decide) rfl rfl (Nat.le_of_ble_eq_true rfl) rfl (fun X E => ?_)
  unfold fX8_replace_18 at hf
  refine g_aload_n E 0 dX8_replace_0 rfl rfl ?_
  refine g_iload_n E 1 dX8_replace_1 rfl rfl ?_
  obtain ⟨hi1, hf⟩ := gd hf
  refine g_iald E 18 (σ.1 18) (cwG18 _ _) hi1 dX8_replace_2 ?_
  refine g_istore_n E [(3, .int (σ.1 18 x1.toNatClampNeg)), (0, .ref (k.2.2.2.1 18)), (1, .int x1), (2, .int x2)] dX8_replace_3 rfl (by decide) rfl ?_
  refine g_aload_n E 1 dX8_replace_4 rfl rfl ?_
  refine g_iload_n E 2 dX8_replace_5 rfl rfl ?_
  refine g_iload_n E 3 dX8_replace_6 rfl rfl ?_
  obtain ⟨hi2, hf⟩ := gd hf
  refine g_iast E 18 (cw k.2.2.2 (uA σ 18 x1.toNatClampNeg x2)) (σ.1 18) (cwG18 _ _) hi2 (cwA18 _ _ _ _) dX8_replace_7 ?_
  refine g_iload_n E 0 dX8_replace_8 rfl rfl ?_
  have hf := Option.some.inj hf
  subst hf
  exact g_iret E dX8_replace_9
theorem hi_X8_bid_X8 : ∀ w ∈ wsX80, w ∈ wsX8_bid := by decide +kernel
theorem hi_X8_bid_X4 : ∀ w ∈ wsX40, w ∈ wsX8_bid := by decide +kernel
theorem hk_X8_bid_10 : Cond.fieldLink RX8 10 "PaperMarks" "judges" "LPaperMarks$Judges;" ∈ wsX8_bid := by decide +kernel
theorem hk_X8_bid_19 : Cond.fieldLink RX8 19 "PaperMarks" "papers" "LPaperMarks$Papers;" ∈ wsX8_bid := by decide +kernel
theorem hk_X8_bid_207 : Cond.fieldLink RX8 207 "PaperMarks$Papers" "bids" "[I" ∈ wsX8_bid := by decide +kernel
def rm_fX8_bid : Room := { frames := 1, cells := 0, slots := 0, locals := 23 }
set_option maxHeartbeats 4000000 in
set_option maxRecDepth 100000 in
theorem fX8_bid_c (k : gK) (σ : St) (x1 : Int32) (x2 : Int32) (x3 : Int32) (r : Int32 × St) (hf : fX8_bid σ x1 x2 x3 = some r) : MC k yX8_bid wsX8_bid rm_fX8_bid [.ref (k.2.2.2.1 0), .int x1, .int x2, .int x3] (cw k.2.2.2 σ) (some (.int r.1)) (cw k.2.2.2 r.2) := by
  refine MC_of (cc := cX8_bid) (maxL := 4) (ret := (some .int)) (own := RX8) (lvs := [(0, .ref (k.2.2.2.1 0)), (1, .int x1), (2, .int x2), (3, .int x3)]) (by decide) rfl rfl (Nat.le_of_ble_eq_true rfl) rfl (fun X E => ?_)
  unfold fX8_bid at hf
  refine g_aload_n E 0 dX8_bid_0 rfl rfl ?_
  refine g_get (C := RX8) (T := TX8) (N := 7) (ci := 8) E 0 0 (.ref (k.2.2.2.1 1)) hi_X8_bid_X8 (cwG0 _ _) rfl (by decide) hk_X8_bid_10 rfl dX8_bid_1 ?_
  refine g_iload_n E 1 dX8_bid_4 rfl rfl ?_
  obtain ⟨q1, hq2, hf⟩ := gb hf
  refine g_callV (C := RX0) (T := TX0) (N := 5) (ci := 0) (As := [.int x1]) (rest := []) (n := 1) E 1 (fX0_has_c k σ x1 q1 hq2) gX8_bid_X0_has rfl rfl rfl (by decide +kernel) ⟨Nat.le_of_ble_eq_true rfl, Nat.le_of_ble_eq_true rfl⟩ rfl rfl (Nat.le_of_ble_eq_true rfl) rfl (cwG1 _ _) dX8_bid_5 ?_
  refine g_if_eq (tgt := 22) E dX8_bid_8 (by decide) (fun c3 => ?_) (fun c3 => ?_)
  · have hf := gp hf c3
    refine g_iconst (v := (-1 : Int32)) E dX8_bid_22 (by decide) ?_
    have hf := Option.some.inj hf
    subst hf
    exact g_iret E dX8_bid_23
  · have hf := gn hf c3
    refine g_aload_n E 0 dX8_bid_11 rfl rfl ?_
    refine g_get (C := RX8) (T := TX8) (N := 7) (ci := 8) E 0 1 (.ref (k.2.2.2.1 2)) hi_X8_bid_X8 (cwG0 _ _) rfl (by decide) hk_X8_bid_19 rfl dX8_bid_12 ?_
    refine g_iload_n E 2 dX8_bid_15 rfl rfl ?_
    obtain ⟨q4, hq5, hf⟩ := gb hf
    refine g_callV (C := RX4) (T := TX4) (N := 6) (ci := 4) (As := [.int x2]) (rest := []) (n := 1) E 2 (fX4_has_c k q1.2 x2 q4 hq5) gX8_bid_X4_has rfl rfl rfl (by decide +kernel) ⟨Nat.le_of_ble_eq_true rfl, Nat.le_of_ble_eq_true rfl⟩ rfl rfl (Nat.le_of_ble_eq_true rfl) rfl (cwG2 _ _) dX8_bid_16 ?_
    refine g_if_ne (tgt := 24) E dX8_bid_19 (by decide) (fun c6 => ?_) (fun c6 => ?_)
    · have hf := gn hf c6
      refine g_iload_n E 3 dX8_bid_24 rfl rfl ?_
      refine g_iconst (v := (0 : Int32)) E dX8_bid_25 (by decide) ?_
      refine g_iconst (v := (3 : Int32)) E dX8_bid_26 (by decide) ?_
      obtain ⟨q7, hq8, hf⟩ := gb hf
      refine g_callS (As := [.int x3, .int (0 : Int32), .int (3 : Int32)]) (rest := []) (n := 3) E (fX8_within_c k q4.2 x3 (0 : Int32) (3 : Int32) q7 hq8) gX8_bid_X8_within rfl rfl rfl (by decide +kernel) ⟨Nat.le_of_ble_eq_true rfl, Nat.le_of_ble_eq_true rfl⟩ rfl rfl (Nat.le_of_ble_eq_true rfl) dX8_bid_27 ?_
      refine g_if_ne (tgt := 36) E dX8_bid_30 (by decide) (fun c9 => ?_) (fun c9 => ?_)
      · have hf := gn hf c9
        refine g_aload_n E 0 dX8_bid_36 rfl rfl ?_
        refine g_get (C := RX8) (T := TX8) (N := 7) (ci := 8) E 0 1 (.ref (k.2.2.2.1 2)) hi_X8_bid_X8 (cwG0 _ _) rfl (by decide) hk_X8_bid_19 rfl dX8_bid_37 ?_
        refine g_get (C := RX4) (T := TX4) (N := 6) (ci := 4) E 2 4 (.ref (k.2.2.2.1 18)) hi_X8_bid_X4 (cwG2 _ _) rfl (by decide) hk_X8_bid_207 rfl dX8_bid_40 ?_
        refine g_iload_n E 1 dX8_bid_43 rfl rfl ?_
        refine g_bipush (v := (6 : Int32)) E dX8_bid_44 (by decide) ?_
        refine g_imul E dX8_bid_46 ?_
        refine g_iload_n E 2 dX8_bid_47 rfl rfl ?_
        refine g_iadd E dX8_bid_48 ?_
        refine g_iload_n E 3 dX8_bid_49 rfl rfl ?_
        obtain ⟨q10, hq11, hf⟩ := gb hf
        refine g_callS (As := [.ref (k.2.2.2.1 18), .int (((x1 * (6 : Int32))) + x2), .int x3]) (rest := []) (n := 3) E (fX8_replace_18_c k q7.2 ((((x1 * (6 : Int32))) + x2)) x3 q10 hq11) gX8_bid_X8_replace rfl rfl rfl (by decide +kernel) ⟨Nat.le_of_ble_eq_true rfl, Nat.le_of_ble_eq_true rfl⟩ rfl rfl (Nat.le_of_ble_eq_true rfl) dX8_bid_50 ?_
        have hf := Option.some.inj hf
        subst hf
        exact g_iret E dX8_bid_53
      · have hf := gp hf c9
        refine g_bipush (v := (-2 : Int32)) E dX8_bid_33 (by decide) ?_
        have hf := Option.some.inj hf
        subst hf
        exact g_iret E dX8_bid_35
    · have hf := gp hf c6
      refine g_iconst (v := (-1 : Int32)) E dX8_bid_22 (by decide) ?_
      have hf := Option.some.inj hf
      subst hf
      exact g_iret E dX8_bid_23
theorem hi_X2_allows_X2 : ∀ w ∈ wsX20, w ∈ wsX2_allows := by decide +kernel
theorem hi_X2_allows_X4 : ∀ w ∈ wsX40, w ∈ wsX2_allows := by decide +kernel
theorem hk_X2_allows_38 : Cond.fieldLink RX2 38 "PaperMarks$Match" "papers" "LPaperMarks$Papers;" ∈ wsX2_allows := by decide +kernel
theorem hk_X2_allows_76 : Cond.fieldLink RX2 76 "PaperMarks$Papers" "writers" "[I" ∈ wsX2_allows := by decide +kernel
theorem hk_X2_allows_34 : Cond.fieldLink RX2 34 "PaperMarks$Match" "judges" "LPaperMarks$Judges;" ∈ wsX2_allows := by decide +kernel
def rm_fX2_allows : Room := { frames := 2, cells := 0, slots := 0, locals := 43 }
set_option maxHeartbeats 4000000 in
set_option maxRecDepth 100000 in
theorem fX2_allows_c (k : gK) (σ : St) (x1 : Int32) (x2 : Int32) (r : Int32 × St) (hf : fX2_allows σ x1 x2 = some r) : MC k yX2_allows wsX2_allows rm_fX2_allows [.ref (k.2.2.2.1 7), .int x1, .int x2] (cw k.2.2.2 σ) (some (.int r.1)) (cw k.2.2.2 r.2) := by
  refine MC_of (cc := cX2_allows) (maxL := 4) (ret := (some .boolean)) (own := RX2) (lvs := [(0, .ref (k.2.2.2.1 7)), (1, .int x1), (2, .int x2)]) (by decide) rfl rfl (Nat.le_of_ble_eq_true rfl) rfl (fun X E => ?_)
  unfold fX2_allows at hf
  refine g_aload_n E 0 dX2_allows_0 rfl rfl ?_
  refine g_get (C := RX2) (T := TX2) (N := 9) (ci := 2) E 7 1 (.ref (k.2.2.2.1 2)) hi_X2_allows_X2 (cwG7 _ _) rfl (by decide) hk_X2_allows_38 rfl dX2_allows_1 ?_
  refine g_get (C := RX4) (T := TX4) (N := 6) (ci := 4) E 2 1 (.ref (k.2.2.2.1 15)) hi_X2_allows_X4 (cwG2 _ _) rfl (by decide) hk_X2_allows_76 rfl dX2_allows_4 ?_
  refine g_iload_n E 2 dX2_allows_7 rfl rfl ?_
  obtain ⟨hi1, hf⟩ := gd hf
  refine g_iald E 15 (σ.1 15) (cwG15 _ _) hi1 dX2_allows_8 ?_
  refine g_istore_n E [(3, .int (σ.1 15 x2.toNatClampNeg)), (0, .ref (k.2.2.2.1 7)), (1, .int x1), (2, .int x2)] dX2_allows_9 rfl (by decide) rfl ?_
  refine g_iload_n E 0 dX2_allows_10 rfl rfl ?_
  refine g_iload_n E 2 dX2_allows_11 rfl rfl ?_
  refine g_icmp_eq (tgt := 32) E dX2_allows_12 (by decide) (fun c2 => ?_) (fun c2 => ?_)
  · have hf := gp hf c2
    refine g_iconst (v := (0 : Int32)) E dX2_allows_32 (by decide) ?_
    have hf := Option.some.inj hf
    subst hf
    exact g_zret E (Or.inl rfl) dX2_allows_33
  · have hf := gn hf c2
    refine g_aload_n E 1 dX2_allows_15 rfl rfl ?_
    refine g_get (C := RX2) (T := TX2) (N := 9) (ci := 2) E 7 0 (.ref (k.2.2.2.1 1)) hi_X2_allows_X2 (cwG7 _ _) rfl (by decide) hk_X2_allows_34 rfl dX2_allows_16 ?_
    refine g_iload_n E 2 dX2_allows_19 rfl rfl ?_
    refine g_iload_n E 0 dX2_allows_20 rfl rfl ?_
    obtain ⟨q3, hq4, hf⟩ := gb hf
    refine g_callV (C := RX0) (T := TX0) (N := 5) (ci := 0) (As := [.int x1, .int (σ.1 15 x2.toNatClampNeg)]) (rest := []) (n := 2) E 1 (fX0_tieOf_c k σ x1 (σ.1 15 x2.toNatClampNeg) q3 hq4) gX2_allows_X0_tieOf rfl rfl rfl (by decide +kernel) ⟨Nat.le_of_ble_eq_true rfl, Nat.le_of_ble_eq_true rfl⟩ rfl rfl (Nat.le_of_ble_eq_true rfl) rfl (cwG1 _ _) dX2_allows_21 ?_
    refine g_iconst (v := (-1 : Int32)) E dX2_allows_24 (by decide) ?_
    refine g_icmp_eq (tgt := 32) E dX2_allows_25 (by decide) (fun c5 => ?_) (fun c5 => ?_)
    · have hf := gp hf c5
      refine g_iconst (v := (0 : Int32)) E dX2_allows_32 (by decide) ?_
      have hf := Option.some.inj hf
      subst hf
      exact g_zret E (Or.inl rfl) dX2_allows_33
    · have hf := gn hf c5
      refine g_iconst (v := (1 : Int32)) E dX2_allows_28 (by decide) ?_
      refine g_goto (tgt := 33) E dX2_allows_29 (by decide) ?_
      have hf := Option.some.inj hf
      subst hf
      exact g_zret E (Or.inr rfl) dX2_allows_33
theorem hi_X4_bidOf_X4 : ∀ w ∈ wsX40, w ∈ wsX4_bidOf := by decide +kernel
theorem hk_X4_bidOf_24 : Cond.fieldLink RX4 24 "PaperMarks$Papers" "bids" "[I" ∈ wsX4_bidOf := by decide +kernel
def rm_fX4_bidOf : Room := { frames := 0, cells := 0, slots := 0, locals := 0 }
set_option maxHeartbeats 4000000 in
set_option maxRecDepth 100000 in
theorem fX4_bidOf_c (k : gK) (σ : St) (x1 : Int32) (x2 : Int32) (r : Int32 × St) (hf : fX4_bidOf σ x1 x2 = some r) : MC k yX4_bidOf wsX4_bidOf rm_fX4_bidOf [.ref (k.2.2.2.1 2), .int x1, .int x2] (cw k.2.2.2 σ) (some (.int r.1)) (cw k.2.2.2 r.2) := by
  refine MC_of (cc := cX4_bidOf) (maxL := 3) (ret := (some .int)) (own := RX4) (lvs := [(0, .ref (k.2.2.2.1 2)), (1, .int x1), (2, .int x2)]) (by decide) rfl rfl (Nat.le_of_ble_eq_true rfl) rfl (fun X E => ?_)
  unfold fX4_bidOf at hf
  refine g_aload_n E 0 dX4_bidOf_0 rfl rfl ?_
  refine g_get (C := RX4) (T := TX4) (N := 6) (ci := 4) E 2 4 (.ref (k.2.2.2.1 18)) hi_X4_bidOf_X4 (cwG2 _ _) rfl (by decide) hk_X4_bidOf_24 rfl dX4_bidOf_1 ?_
  refine g_iload_n E 1 dX4_bidOf_4 rfl rfl ?_
  refine g_bipush (v := (6 : Int32)) E dX4_bidOf_5 (by decide) ?_
  refine g_imul E dX4_bidOf_7 ?_
  refine g_iload_n E 2 dX4_bidOf_8 rfl rfl ?_
  refine g_iadd E dX4_bidOf_9 ?_
  obtain ⟨hi1, hf⟩ := gd hf
  refine g_iald E 18 (σ.1 18) (cwG18 _ _) hi1 dX4_bidOf_10 ?_
  have hf := Option.some.inj hf
  subst hf
  exact g_iret E dX4_bidOf_11
theorem hi_X2_weight_X2 : ∀ w ∈ wsX20, w ∈ wsX2_weight := by decide +kernel
theorem hk_X2_weight_38 : Cond.fieldLink RX2 38 "PaperMarks$Match" "papers" "LPaperMarks$Papers;" ∈ wsX2_weight := by decide +kernel
def rm_fX2_weight : Room := { frames := 1, cells := 0, slots := 0, locals := 22 }
set_option maxHeartbeats 4000000 in
set_option maxRecDepth 100000 in
theorem fX2_weight_c (k : gK) (σ : St) (x1 : Int32) (x2 : Int32) (r : Int64 × St) (hf : fX2_weight σ x1 x2 = some r) : MC k yX2_weight wsX2_weight rm_fX2_weight [.ref (k.2.2.2.1 7), .int x1, .int x2] (cw k.2.2.2 σ) (some (.long r.1)) (cw k.2.2.2 r.2) := by
  refine MC_of (cc := cX2_weight) (maxL := 6) (ret := (some .long)) (own := RX2) (lvs := [(0, .ref (k.2.2.2.1 7)), (1, .int x1), (2, .int x2)]) (by decide) rfl rfl (Nat.le_of_ble_eq_true rfl) rfl (fun X E => ?_)
  unfold fX2_weight at hf
  refine g_aload_n E 0 dX2_weight_0 rfl rfl ?_
  refine g_get (C := RX2) (T := TX2) (N := 9) (ci := 2) E 7 1 (.ref (k.2.2.2.1 2)) hi_X2_weight_X2 (cwG7 _ _) rfl (by decide) hk_X2_weight_38 rfl dX2_weight_1 ?_
  refine g_iload_n E 1 dX2_weight_4 rfl rfl ?_
  refine g_iload_n E 2 dX2_weight_5 rfl rfl ?_
  obtain ⟨q1, hq2, hf⟩ := gb hf
  refine g_callV (C := RX4) (T := TX4) (N := 6) (ci := 4) (As := [.int x1, .int x2]) (rest := []) (n := 2) E 2 (fX4_bidOf_c k σ x1 x2 q1 hq2) gX2_weight_X4_bidOf rfl rfl rfl (by decide +kernel) ⟨Nat.le_of_ble_eq_true rfl, Nat.le_of_ble_eq_true rfl⟩ rfl rfl (Nat.le_of_ble_eq_true rfl) rfl (cwG2 _ _) dX2_weight_6 ?_
  refine g_i2l E dX2_weight_9 ?_
  refine g_lstore_n E [(3, .long q1.1.toInt64), (0, .ref (k.2.2.2.1 7)), (1, .int x1), (2, .int x2)] dX2_weight_10 rfl (by decide) rfl ?_
  refine g_iconst (v := (5 : Int32)) E dX2_weight_11 (by decide) ?_
  refine g_iload_n E 3 dX2_weight_12 rfl rfl ?_
  refine g_isub E dX2_weight_13 ?_
  refine g_bipush (v := (6 : Int32)) E dX2_weight_14 (by decide) ?_
  refine g_imul E dX2_weight_16 ?_
  refine g_iload_n E 2 dX2_weight_17 rfl rfl ?_
  refine g_iadd E dX2_weight_18 ?_
  refine g_istore E [(5, .int ((((((5 : Int32) - x2)) * (6 : Int32))) + x1)), (3, .long q1.1.toInt64), (0, .ref (k.2.2.2.1 7)), (1, .int x1), (2, .int x2)] dX2_weight_19 (by decide) rfl ?_
  refine g_lload_n E 1 dX2_weight_21 rfl rfl ?_
  refine g_bipush (v := (36 : Int32)) E dX2_weight_22 (by decide) ?_
  refine g_lshl E dX2_weight_24 ?_
  refine g_lconst (v := (1 : Int64)) E dX2_weight_25 (by decide) ?_
  refine g_iload E 0 dX2_weight_26 rfl ?_
  refine g_lshl E dX2_weight_28 ?_
  refine g_lsub E dX2_weight_29 ?_
  have hf := Option.some.inj hf
  subst hf
  exact g_lret E dX2_weight_30
