theorem hi_X2_giveTo_X2 : ∀ w ∈ wsX20, w ∈ wsX2_giveTo := by decide +kernel
theorem hk_X2_giveTo_21 : Cond.fieldLink RX2 21 "PaperMarks$Match" "paperGains" "[J" ∈ wsX2_giveTo := by decide +kernel
theorem hk_X2_giveTo_25 : Cond.fieldLink RX2 25 "PaperMarks$Match" "judgeGains" "[J" ∈ wsX2_giveTo := by decide +kernel
theorem hk_X2_giveTo_31 : Cond.fieldLink RX2 31 "PaperMarks$Match" "gets" "[I" ∈ wsX2_giveTo := by decide +kernel
def rm_fX2_giveTo : Room := { frames := 3, cells := 0, slots := 0, locals := 66 }
set_option maxHeartbeats 4000000 in
set_option maxRecDepth 100000 in
theorem fX2_giveTo_c (k : gK) (σ : St) (x1 : Int32) (x2 : Int32) (r : Int32 × St) (hf : fX2_giveTo σ x1 x2 = some r) : MC k yX2_giveTo wsX2_giveTo rm_fX2_giveTo [.ref (k.2.2.2.1 7), .int x1, .int x2] (cw k.2.2.2 σ) (some (.int r.1)) (cw k.2.2.2 r.2) := by
  refine MC_of (cc := cX2_giveTo) (maxL := 5) (ret := (some .boolean)) (own := RX2) (lvs := [(0, .ref (k.2.2.2.1 7)), (1, .int x1), (2, .int x2)]) (by decide) rfl rfl (Nat.le_of_ble_eq_true rfl) rfl (fun X E => ?_)
  unfold fX2_giveTo at hf
  refine g_aload_n E 0 dX2_giveTo_0 rfl rfl ?_
  refine g_get (C := RX2) (T := TX2) (N := 9) (ci := 2) E 7 5 (.ref (k.2.2.2.1 30)) hi_X2_giveTo_X2 (cwG7 _ _) rfl (by decide) hk_X2_giveTo_21 rfl dX2_giveTo_1 ?_
  refine g_iload_n E 2 dX2_giveTo_4 rfl rfl ?_
  obtain ⟨hi1, hf⟩ := gd hf
  refine g_lald E 30 (σ.2.2 30) (cwG30 _ _) hi1 dX2_giveTo_5 ?_
  refine g_ldc2 (v := (-1152921504606846976 : Int64)) E (by decide +kernel) dX2_giveTo_6 ?_
  refine g_lcmp E dX2_giveTo_9 ?_
  refine g_if_eq (tgt := 22) E dX2_giveTo_10 (by decide) (fun c2 => ?_) (fun c2 => ?_)
  · have hf := gp hf c2
    refine g_iconst (v := (0 : Int32)) E dX2_giveTo_22 (by decide) ?_
    have hf := Option.some.inj hf
    subst hf
    exact g_zret E (Or.inl rfl) dX2_giveTo_23
  · have hf := gn hf c2
    refine g_aload_n E 0 dX2_giveTo_13 rfl rfl ?_
    refine g_iload_n E 1 dX2_giveTo_14 rfl rfl ?_
    refine g_iload_n E 2 dX2_giveTo_15 rfl rfl ?_
    obtain ⟨q3, hq4, hf⟩ := gb hf
    refine g_callV (C := RX2) (T := TX2) (N := 9) (ci := 2) (As := [.int x1, .int x2]) (rest := []) (n := 2) E 7 (fX2_allows_c k σ x1 x2 q3 hq4) gX2_giveTo_X2_allows rfl rfl rfl (by decide +kernel) ⟨Nat.le_of_ble_eq_true rfl, Nat.le_of_ble_eq_true rfl⟩ rfl rfl (Nat.le_of_ble_eq_true rfl) rfl (cwG7 _ _) dX2_giveTo_16 ?_
    refine g_if_ne (tgt := 24) E dX2_giveTo_19 (by decide) (fun c5 => ?_) (fun c5 => ?_)
    · have hf := gn hf c5
      refine g_aload_n E 0 dX2_giveTo_24 rfl rfl ?_
      refine g_get (C := RX2) (T := TX2) (N := 9) (ci := 2) E 7 5 (.ref (k.2.2.2.1 30)) hi_X2_giveTo_X2 (cwG7 _ _) rfl (by decide) hk_X2_giveTo_21 rfl dX2_giveTo_25 ?_
      refine g_iload_n E 2 dX2_giveTo_28 rfl rfl ?_
      obtain ⟨hi6, hf⟩ := gd hf
      refine g_lald E 30 (q3.2.2.2 30) (cwG30 _ _) hi6 dX2_giveTo_29 ?_
      refine g_aload_n E 0 dX2_giveTo_30 rfl rfl ?_
      refine g_iload_n E 1 dX2_giveTo_31 rfl rfl ?_
      refine g_iload_n E 2 dX2_giveTo_32 rfl rfl ?_
      obtain ⟨q7, hq8, hf⟩ := gb hf
      refine g_callV (C := RX2) (T := TX2) (N := 9) (ci := 2) (As := [.int x1, .int x2]) (rest := [.long (q3.2.2.2 30 x2.toNatClampNeg)]) (n := 2) E 7 (fX2_weight_c k q3.2 x1 x2 q7 hq8) gX2_giveTo_X2_weight rfl rfl rfl (by decide +kernel) ⟨Nat.le_of_ble_eq_true rfl, Nat.le_of_ble_eq_true rfl⟩ rfl rfl (Nat.le_of_ble_eq_true rfl) rfl (cwG7 _ _) dX2_giveTo_33 ?_
      refine g_ladd E dX2_giveTo_36 ?_
      refine g_lstore_n E [(3, .long ((q3.2.2.2 30 x2.toNatClampNeg) + q7.1)), (0, .ref (k.2.2.2.1 7)), (1, .int x1), (2, .int x2)] dX2_giveTo_37 rfl (by decide) rfl ?_
      refine g_lload_n E 0 dX2_giveTo_38 rfl rfl ?_
      refine g_aload_n E 1 dX2_giveTo_39 rfl rfl ?_
      refine g_get (C := RX2) (T := TX2) (N := 9) (ci := 2) E 7 6 (.ref (k.2.2.2.1 31)) hi_X2_giveTo_X2 (cwG7 _ _) rfl (by decide) hk_X2_giveTo_25 rfl dX2_giveTo_40 ?_
      refine g_iload_n E 2 dX2_giveTo_43 rfl rfl ?_
      obtain ⟨hi9, hf⟩ := gd hf
      refine g_lald E 31 (q7.2.2.2 31) (cwG31 _ _) hi9 dX2_giveTo_44 ?_
      refine g_lcmp E dX2_giveTo_45 ?_
      refine g_if_gt (tgt := 51) E dX2_giveTo_46 (by decide) (fun c10 => ?_) (fun c10 => ?_)
      · have hf := gp hf c10
        refine g_aload_n E 1 dX2_giveTo_51 rfl rfl ?_
        refine g_get (C := RX2) (T := TX2) (N := 9) (ci := 2) E 7 6 (.ref (k.2.2.2.1 31)) hi_X2_giveTo_X2 (cwG7 _ _) rfl (by decide) hk_X2_giveTo_25 rfl dX2_giveTo_52 ?_
        refine g_iload_n E 2 dX2_giveTo_55 rfl rfl ?_
        refine g_lload_n E 0 dX2_giveTo_56 rfl rfl ?_
        obtain ⟨hi11, hf⟩ := gd hf
        refine g_last E 31 (cw k.2.2.2 (uL q7.2 31 x1.toNatClampNeg (((q3.2.2.2 30 x2.toNatClampNeg) + q7.1)))) (q7.2.2.2 31) (cwG31 _ _) hi11 (cwL31 _ _ _ _) dX2_giveTo_57 ?_
        refine g_aload_n E 1 dX2_giveTo_58 rfl rfl ?_
        refine g_get (C := RX2) (T := TX2) (N := 9) (ci := 2) E 7 8 (.ref (k.2.2.2.1 33)) hi_X2_giveTo_X2 (cwG7 _ _) rfl (by decide) hk_X2_giveTo_31 rfl dX2_giveTo_59 ?_
        refine g_iload_n E 2 dX2_giveTo_62 rfl rfl ?_
        refine g_iload_n E 3 dX2_giveTo_63 rfl rfl ?_
        obtain ⟨hi12, hf⟩ := gd hf
        refine g_iast E 33 (cw k.2.2.2 (uA ((uL q7.2 31 x1.toNatClampNeg (((q3.2.2.2 30 x2.toNatClampNeg) + q7.1)))) 33 x1.toNatClampNeg x2)) (((uL q7.2 31 x1.toNatClampNeg (((q3.2.2.2 30 x2.toNatClampNeg) + q7.1)))).1 33) (cwG33 _ _) hi12 (cwA33 _ _ _ _) dX2_giveTo_64 ?_
        refine g_iconst (v := (1 : Int32)) E dX2_giveTo_65 (by decide) ?_
        have hf := Option.some.inj hf
        subst hf
        exact g_zret E (Or.inr rfl) dX2_giveTo_66
      · have hf := gn hf c10
        refine g_iconst (v := (0 : Int32)) E dX2_giveTo_49 (by decide) ?_
        have hf := Option.some.inj hf
        subst hf
        exact g_zret E (Or.inl rfl) dX2_giveTo_50
    · have hf := gp hf c5
      refine g_iconst (v := (0 : Int32)) E dX2_giveTo_22 (by decide) ?_
      have hf := Option.some.inj hf
      subst hf
      exact g_zret E (Or.inl rfl) dX2_giveTo_23
theorem hi_X2_giveUp_X2 : ∀ w ∈ wsX20, w ∈ wsX2_giveUp := by decide +kernel
theorem hk_X2_giveUp_25 : Cond.fieldLink RX2 25 "PaperMarks$Match" "judgeGains" "[J" ∈ wsX2_giveUp := by decide +kernel
theorem hk_X2_giveUp_21 : Cond.fieldLink RX2 21 "PaperMarks$Match" "paperGains" "[J" ∈ wsX2_giveUp := by decide +kernel
theorem hk_X2_giveUp_28 : Cond.fieldLink RX2 28 "PaperMarks$Match" "givers" "[I" ∈ wsX2_giveUp := by decide +kernel
def rm_fX2_giveUp : Room := { frames := 2, cells := 0, slots := 0, locals := 47 }
set_option maxHeartbeats 4000000 in
set_option maxRecDepth 100000 in
theorem fX2_giveUp_c (k : gK) (σ : St) (x1 : Int32) (x2 : Int32) (r : Int32 × St) (hf : fX2_giveUp σ x1 x2 = some r) : MC k yX2_giveUp wsX2_giveUp rm_fX2_giveUp [.ref (k.2.2.2.1 7), .int x1, .int x2] (cw k.2.2.2 σ) (some (.int r.1)) (cw k.2.2.2 r.2) := by
  refine MC_of (cc := cX2_giveUp) (maxL := 5) (ret := (some .boolean)) (own := RX2) (lvs := [(0, .ref (k.2.2.2.1 7)), (1, .int x1), (2, .int x2)]) (by decide) rfl rfl (Nat.le_of_ble_eq_true rfl) rfl (fun X E => ?_)
  unfold fX2_giveUp at hf
  refine g_aload_n E 0 dX2_giveUp_0 rfl rfl ?_
  refine g_get (C := RX2) (T := TX2) (N := 9) (ci := 2) E 7 6 (.ref (k.2.2.2.1 31)) hi_X2_giveUp_X2 (cwG7 _ _) rfl (by decide) hk_X2_giveUp_25 rfl dX2_giveUp_1 ?_
  refine g_iload_n E 1 dX2_giveUp_4 rfl rfl ?_
  obtain ⟨hi1, hf⟩ := gd hf
  refine g_lald E 31 (σ.2.2 31) (cwG31 _ _) hi1 dX2_giveUp_5 ?_
  refine g_ldc2 (v := (-1152921504606846976 : Int64)) E (by decide +kernel) dX2_giveUp_6 ?_
  refine g_lcmp E dX2_giveUp_9 ?_
  refine g_if_ne (tgt := 15) E dX2_giveUp_10 (by decide) (fun c2 => ?_) (fun c2 => ?_)
  · have hf := gn hf c2
    refine g_aload_n E 0 dX2_giveUp_15 rfl rfl ?_
    refine g_get (C := RX2) (T := TX2) (N := 9) (ci := 2) E 7 6 (.ref (k.2.2.2.1 31)) hi_X2_giveUp_X2 (cwG7 _ _) rfl (by decide) hk_X2_giveUp_25 rfl dX2_giveUp_16 ?_
    refine g_iload_n E 1 dX2_giveUp_19 rfl rfl ?_
    obtain ⟨hi3, hf⟩ := gd hf
    refine g_lald E 31 (σ.2.2 31) (cwG31 _ _) hi3 dX2_giveUp_20 ?_
    refine g_aload_n E 0 dX2_giveUp_21 rfl rfl ?_
    refine g_iload_n E 1 dX2_giveUp_22 rfl rfl ?_
    refine g_iload_n E 2 dX2_giveUp_23 rfl rfl ?_
    obtain ⟨q4, hq5, hf⟩ := gb hf
    refine g_callV (C := RX2) (T := TX2) (N := 9) (ci := 2) (As := [.int x1, .int x2]) (rest := [.long (σ.2.2 31 x1.toNatClampNeg)]) (n := 2) E 7 (fX2_weight_c k σ x1 x2 q4 hq5) gX2_giveUp_X2_weight rfl rfl rfl (by decide +kernel) ⟨Nat.le_of_ble_eq_true rfl, Nat.le_of_ble_eq_true rfl⟩ rfl rfl (Nat.le_of_ble_eq_true rfl) rfl (cwG7 _ _) dX2_giveUp_24 ?_
    refine g_lsub E dX2_giveUp_27 ?_
    refine g_lstore_n E [(3, .long ((σ.2.2 31 x1.toNatClampNeg) - q4.1)), (0, .ref (k.2.2.2.1 7)), (1, .int x1), (2, .int x2)] dX2_giveUp_28 rfl (by decide) rfl ?_
    refine g_lload_n E 0 dX2_giveUp_29 rfl rfl ?_
    refine g_aload_n E 1 dX2_giveUp_30 rfl rfl ?_
    refine g_get (C := RX2) (T := TX2) (N := 9) (ci := 2) E 7 5 (.ref (k.2.2.2.1 30)) hi_X2_giveUp_X2 (cwG7 _ _) rfl (by decide) hk_X2_giveUp_21 rfl dX2_giveUp_31 ?_
    refine g_iload_n E 3 dX2_giveUp_34 rfl rfl ?_
    obtain ⟨hi6, hf⟩ := gd hf
    refine g_lald E 30 (q4.2.2.2 30) (cwG30 _ _) hi6 dX2_giveUp_35 ?_
    refine g_lcmp E dX2_giveUp_36 ?_
    refine g_if_gt (tgt := 42) E dX2_giveUp_37 (by decide) (fun c7 => ?_) (fun c7 => ?_)
    · have hf := gp hf c7
      refine g_aload_n E 1 dX2_giveUp_42 rfl rfl ?_
      refine g_get (C := RX2) (T := TX2) (N := 9) (ci := 2) E 7 5 (.ref (k.2.2.2.1 30)) hi_X2_giveUp_X2 (cwG7 _ _) rfl (by decide) hk_X2_giveUp_21 rfl dX2_giveUp_43 ?_
      refine g_iload_n E 3 dX2_giveUp_46 rfl rfl ?_
      refine g_lload_n E 0 dX2_giveUp_47 rfl rfl ?_
      obtain ⟨hi8, hf⟩ := gd hf
      refine g_last E 30 (cw k.2.2.2 (uL q4.2 30 x2.toNatClampNeg (((σ.2.2 31 x1.toNatClampNeg) - q4.1)))) (q4.2.2.2 30) (cwG30 _ _) hi8 (cwL30 _ _ _ _) dX2_giveUp_48 ?_
      refine g_aload_n E 1 dX2_giveUp_49 rfl rfl ?_
      refine g_get (C := RX2) (T := TX2) (N := 9) (ci := 2) E 7 7 (.ref (k.2.2.2.1 32)) hi_X2_giveUp_X2 (cwG7 _ _) rfl (by decide) hk_X2_giveUp_28 rfl dX2_giveUp_50 ?_
      refine g_iload_n E 3 dX2_giveUp_53 rfl rfl ?_
      refine g_iload_n E 2 dX2_giveUp_54 rfl rfl ?_
      obtain ⟨hi9, hf⟩ := gd hf
      refine g_iast E 32 (cw k.2.2.2 (uA ((uL q4.2 30 x2.toNatClampNeg (((σ.2.2 31 x1.toNatClampNeg) - q4.1)))) 32 x2.toNatClampNeg x1)) (((uL q4.2 30 x2.toNatClampNeg (((σ.2.2 31 x1.toNatClampNeg) - q4.1)))).1 32) (cwG32 _ _) hi9 (cwA32 _ _ _ _) dX2_giveUp_55 ?_
      refine g_iconst (v := (1 : Int32)) E dX2_giveUp_56 (by decide) ?_
      have hf := Option.some.inj hf
      subst hf
      exact g_zret E (Or.inr rfl) dX2_giveUp_57
    · have hf := gn hf c7
      refine g_iconst (v := (0 : Int32)) E dX2_giveUp_40 (by decide) ?_
      have hf := Option.some.inj hf
      subst hf
      exact g_zret E (Or.inl rfl) dX2_giveUp_41
  · have hf := gp hf c2
    refine g_iconst (v := (0 : Int32)) E dX2_giveUp_13 (by decide) ?_
    have hf := Option.some.inj hf
    subst hf
    exact g_zret E (Or.inl rfl) dX2_giveUp_14
def rm_fJ7_fill_d0a16_31 : Room := { frames := 0, cells := 0, slots := 0, locals := 0 }
set_option maxHeartbeats 4000000 in
set_option maxRecDepth 100000 in
theorem fJ7_fill_d0a16_31_w6 {k : gK} {X : gX} (E : gE k X cJ7_fill_d0a16 RJ7 wsJ7_fill_d0a16 5 none rm_fJ7_fill_d0a16_31) (rc6 : St → Int64 → Int32 → Int32 → Option (Unit × St)) (hrc6 : ∀ (σ : St) (x1 : Int64) (x3 : Int32) (x4 : Int32) (r : Unit × St), rc6 σ x1 x3 x4 = some r → G k X 5 (none) (cw k.2.2.2 r.2) (cw k.2.2.2 σ) [(0, .ref (k.2.2.2.1 31)), (1, .long x1), (3, .int x3), (4, .int x4)] [] 6) (σ : St) (x1 : Int64) (x3 : Int32) (x4 : Int32) (r : Unit × St) (hf : fJ7_fill_d0a16_31_b6 rc6 σ x1 x3 x4 = some r) : G k X 5 (none) (cw k.2.2.2 r.2) (cw k.2.2.2 σ) [(0, .ref (k.2.2.2.1 31)), (1, .long x1), (3, .int x3), (4, .int x4)] [] 6 := by
  unfold fJ7_fill_d0a16_31_b6 at hf
  refine g_iload_n E 2 dJ7_fill_d0a16_6 rfl rfl ?_
  refine g_iload E 3 dJ7_fill_d0a16_7 rfl ?_
  refine g_icmp_ge (tgt := 22) E dJ7_fill_d0a16_9 (by decide) (fun c1 => ?_) (fun c1 => ?_)
  · have hf := gp hf c1
    have hf := Option.some.inj hf
    subst hf
    exact g_vret E dJ7_fill_d0a16_22
  · have hf := gn hf c1
    refine g_aload_n E 0 dJ7_fill_d0a16_12 rfl rfl ?_
    refine g_iload_n E 2 dJ7_fill_d0a16_13 rfl rfl ?_
    refine g_lload_n E 1 dJ7_fill_d0a16_14 rfl rfl ?_
    obtain ⟨hi2, hf⟩ := gd hf
    refine g_last E 31 (cw k.2.2.2 (uL σ 31 x3.toNatClampNeg x1)) (σ.2.2 31) (cwG31 _ _) hi2 (cwL31 _ _ _ _) dJ7_fill_d0a16_15 ?_
    refine g_iinc E 2 [(3, .int (x3 + (1 : Int32))), (0, .ref (k.2.2.2.1 31)), (1, .long x1), (4, .int x4)] (x3 + (1 : Int32)) dJ7_fill_d0a16_16 rfl (by rfl) (by decide) rfl ?_
    refine g_goto (tgt := 6) E dJ7_fill_d0a16_19 (by decide) ?_
    exact g_sub [1, 2, 0, 3] rfl (hrc6 (uL σ 31 x3.toNatClampNeg x1) x1 (x3 + (1 : Int32)) x4 r hf)
theorem fJ7_fill_d0a16_31_v6 {k : gK} {X : gX} (E : gE k X cJ7_fill_d0a16 RJ7 wsJ7_fill_d0a16 5 none rm_fJ7_fill_d0a16_31) : ∀ (n : Nat) (σ : St) (x1 : Int64) (x3 : Int32) (x4 : Int32) (r : Unit × St), fJ7_fill_d0a16_31_l6 n σ x1 x3 x4 = some r → G k X 5 (none) (cw k.2.2.2 r.2) (cw k.2.2.2 σ) [(0, .ref (k.2.2.2.1 31)), (1, .long x1), (3, .int x3), (4, .int x4)] [] 6 := by
  intro n
  induction n with
  | zero => intro σ x1 x3 x4 r hf; cases hf
  | succ n ih => intro σ x1 x3 x4 r hf; exact fJ7_fill_d0a16_31_w6 E (fJ7_fill_d0a16_31_l6 n) ih σ x1 x3 x4 r hf
set_option maxHeartbeats 4000000 in
set_option maxRecDepth 100000 in
theorem fJ7_fill_d0a16_31_c (k : gK) (σ : St) (x1 : Int64) (r : Unit × St) (hf : fJ7_fill_d0a16_31 σ x1 = some r) : MC k yJ7_fill_d0a16 wsJ7_fill_d0a16 rm_fJ7_fill_d0a16_31 [.ref (k.2.2.2.1 31), .long x1] (cw k.2.2.2 σ) (none) (cw k.2.2.2 r.2) := by
  refine MC_of (cc := cJ7_fill_d0a16) (maxL := 5) (ret := none) (own := RJ7) (lvs := [(0, .ref (k.2.2.2.1 31)), (1, .long x1)]) (by decide) rfl rfl (Nat.le_of_ble_eq_true rfl) rfl (fun X E => ?_)
  unfold fJ7_fill_d0a16_31 at hf
  refine g_iconst (v := (0 : Int32)) E dJ7_fill_d0a16_0 (by decide) ?_
  refine g_istore_n E [(3, .int (0 : Int32)), (0, .ref (k.2.2.2.1 31)), (1, .long x1)] dJ7_fill_d0a16_1 rfl (by decide) rfl ?_
  refine g_aload_n E 1 dJ7_fill_d0a16_2 rfl rfl ?_
  refine g_alenL (v := (6 : Int32)) E 31 (σ.2.2 31) (cwG31 _ _) (by decide) dJ7_fill_d0a16_3 ?_
  refine g_istore E [(4, .int (6 : Int32)), (3, .int (0 : Int32)), (0, .ref (k.2.2.2.1 31)), (1, .long x1)] dJ7_fill_d0a16_4 (by decide) rfl ?_
  exact g_sub [2, 3, 1, 0] rfl (fJ7_fill_d0a16_31_v6 E gF σ x1 (0 : Int32) (6 : Int32) r hf)
def rm_fJ7_fill_53178_32 : Room := { frames := 0, cells := 0, slots := 0, locals := 0 }
set_option maxHeartbeats 4000000 in
set_option maxRecDepth 100000 in
theorem fJ7_fill_53178_32_w5 {k : gK} {X : gX} (E : gE k X cJ7_fill_53178 RJ7 wsJ7_fill_53178 4 none rm_fJ7_fill_53178_32) (rc5 : St → Int32 → Int32 → Int32 → Option (Unit × St)) (hrc5 : ∀ (σ : St) (x1 : Int32) (x2 : Int32) (x3 : Int32) (r : Unit × St), rc5 σ x1 x2 x3 = some r → G k X 4 (none) (cw k.2.2.2 r.2) (cw k.2.2.2 σ) [(0, .ref (k.2.2.2.1 32)), (1, .int x1), (2, .int x2), (3, .int x3)] [] 5) (σ : St) (x1 : Int32) (x2 : Int32) (x3 : Int32) (r : Unit × St) (hf : fJ7_fill_53178_32_b5 rc5 σ x1 x2 x3 = some r) : G k X 4 (none) (cw k.2.2.2 r.2) (cw k.2.2.2 σ) [(0, .ref (k.2.2.2.1 32)), (1, .int x1), (2, .int x2), (3, .int x3)] [] 5 := by
  unfold fJ7_fill_53178_32_b5 at hf
  refine g_iload_n E 2 dJ7_fill_53178_5 rfl rfl ?_
  refine g_iload_n E 3 dJ7_fill_53178_6 rfl rfl ?_
  refine g_icmp_ge (tgt := 20) E dJ7_fill_53178_7 (by decide) (fun c1 => ?_) (fun c1 => ?_)
  · have hf := gp hf c1
    have hf := Option.some.inj hf
    subst hf
    exact g_vret E dJ7_fill_53178_20
  · have hf := gn hf c1
    refine g_aload_n E 0 dJ7_fill_53178_10 rfl rfl ?_
    refine g_iload_n E 2 dJ7_fill_53178_11 rfl rfl ?_
    refine g_iload_n E 1 dJ7_fill_53178_12 rfl rfl ?_
    obtain ⟨hi2, hf⟩ := gd hf
    refine g_iast E 32 (cw k.2.2.2 (uA σ 32 x2.toNatClampNeg x1)) (σ.1 32) (cwG32 _ _) hi2 (cwA32 _ _ _ _) dJ7_fill_53178_13 ?_
    refine g_iinc E 2 [(2, .int (x2 + (1 : Int32))), (0, .ref (k.2.2.2.1 32)), (1, .int x1), (3, .int x3)] (x2 + (1 : Int32)) dJ7_fill_53178_14 rfl (by rfl) (by decide) rfl ?_
    refine g_goto (tgt := 5) E dJ7_fill_53178_17 (by decide) ?_
    exact g_sub [1, 2, 0, 3] rfl (hrc5 (uA σ 32 x2.toNatClampNeg x1) x1 (x2 + (1 : Int32)) x3 r hf)
theorem fJ7_fill_53178_32_v5 {k : gK} {X : gX} (E : gE k X cJ7_fill_53178 RJ7 wsJ7_fill_53178 4 none rm_fJ7_fill_53178_32) : ∀ (n : Nat) (σ : St) (x1 : Int32) (x2 : Int32) (x3 : Int32) (r : Unit × St), fJ7_fill_53178_32_l5 n σ x1 x2 x3 = some r → G k X 4 (none) (cw k.2.2.2 r.2) (cw k.2.2.2 σ) [(0, .ref (k.2.2.2.1 32)), (1, .int x1), (2, .int x2), (3, .int x3)] [] 5 := by
  intro n
  induction n with
  | zero => intro σ x1 x2 x3 r hf; cases hf
  | succ n ih => intro σ x1 x2 x3 r hf; exact fJ7_fill_53178_32_w5 E (fJ7_fill_53178_32_l5 n) ih σ x1 x2 x3 r hf
set_option maxHeartbeats 4000000 in
set_option maxRecDepth 100000 in
theorem fJ7_fill_53178_32_c (k : gK) (σ : St) (x1 : Int32) (r : Unit × St) (hf : fJ7_fill_53178_32 σ x1 = some r) : MC k yJ7_fill_53178 wsJ7_fill_53178 rm_fJ7_fill_53178_32 [.ref (k.2.2.2.1 32), .int x1] (cw k.2.2.2 σ) (none) (cw k.2.2.2 r.2) := by
  refine MC_of (cc := cJ7_fill_53178) (maxL := 4) (ret := none) (own := RJ7) (lvs := [(0, .ref (k.2.2.2.1 32)), (1, .int x1)]) (by decide) rfl rfl (Nat.le_of_ble_eq_true rfl) rfl (fun X E => ?_)
  unfold fJ7_fill_53178_32 at hf
  refine g_iconst (v := (0 : Int32)) E dJ7_fill_53178_0 (by decide) ?_
  refine g_istore_n E [(2, .int (0 : Int32)), (0, .ref (k.2.2.2.1 32)), (1, .int x1)] dJ7_fill_53178_1 rfl (by decide) rfl ?_
  refine g_aload_n E 1 dJ7_fill_53178_2 rfl rfl ?_
  refine g_alenI (v := (6 : Int32)) E 32 (σ.1 32) (cwG32 _ _) (by decide) dJ7_fill_53178_3 ?_
  refine g_istore_n E [(3, .int (6 : Int32)), (2, .int (0 : Int32)), (0, .ref (k.2.2.2.1 32)), (1, .int x1)] dJ7_fill_53178_4 rfl (by decide) rfl ?_
  exact g_sub [2, 3, 1, 0] rfl (fJ7_fill_53178_32_v5 E gF σ x1 (0 : Int32) (6 : Int32) r hf)
def rm_fJ7_fill_53178_33 : Room := { frames := 0, cells := 0, slots := 0, locals := 0 }
set_option maxHeartbeats 4000000 in
set_option maxRecDepth 100000 in
theorem fJ7_fill_53178_33_w5 {k : gK} {X : gX} (E : gE k X cJ7_fill_53178 RJ7 wsJ7_fill_53178 4 none rm_fJ7_fill_53178_33) (rc5 : St → Int32 → Int32 → Int32 → Option (Unit × St)) (hrc5 : ∀ (σ : St) (x1 : Int32) (x2 : Int32) (x3 : Int32) (r : Unit × St), rc5 σ x1 x2 x3 = some r → G k X 4 (none) (cw k.2.2.2 r.2) (cw k.2.2.2 σ) [(0, .ref (k.2.2.2.1 33)), (1, .int x1), (2, .int x2), (3, .int x3)] [] 5) (σ : St) (x1 : Int32) (x2 : Int32) (x3 : Int32) (r : Unit × St) (hf : fJ7_fill_53178_33_b5 rc5 σ x1 x2 x3 = some r) : G k X 4 (none) (cw k.2.2.2 r.2) (cw k.2.2.2 σ) [(0, .ref (k.2.2.2.1 33)), (1, .int x1), (2, .int x2), (3, .int x3)] [] 5 := by
  unfold fJ7_fill_53178_33_b5 at hf
  refine g_iload_n E 2 dJ7_fill_53178_5 rfl rfl ?_
  refine g_iload_n E 3 dJ7_fill_53178_6 rfl rfl ?_
  refine g_icmp_ge (tgt := 20) E dJ7_fill_53178_7 (by decide) (fun c1 => ?_) (fun c1 => ?_)
  · have hf := gp hf c1
    have hf := Option.some.inj hf
    subst hf
    exact g_vret E dJ7_fill_53178_20
  · have hf := gn hf c1
    refine g_aload_n E 0 dJ7_fill_53178_10 rfl rfl ?_
    refine g_iload_n E 2 dJ7_fill_53178_11 rfl rfl ?_
    refine g_iload_n E 1 dJ7_fill_53178_12 rfl rfl ?_
    obtain ⟨hi2, hf⟩ := gd hf
    refine g_iast E 33 (cw k.2.2.2 (uA σ 33 x2.toNatClampNeg x1)) (σ.1 33) (cwG33 _ _) hi2 (cwA33 _ _ _ _) dJ7_fill_53178_13 ?_
    refine g_iinc E 2 [(2, .int (x2 + (1 : Int32))), (0, .ref (k.2.2.2.1 33)), (1, .int x1), (3, .int x3)] (x2 + (1 : Int32)) dJ7_fill_53178_14 rfl (by rfl) (by decide) rfl ?_
    refine g_goto (tgt := 5) E dJ7_fill_53178_17 (by decide) ?_
    exact g_sub [1, 2, 0, 3] rfl (hrc5 (uA σ 33 x2.toNatClampNeg x1) x1 (x2 + (1 : Int32)) x3 r hf)
theorem fJ7_fill_53178_33_v5 {k : gK} {X : gX} (E : gE k X cJ7_fill_53178 RJ7 wsJ7_fill_53178 4 none rm_fJ7_fill_53178_33) : ∀ (n : Nat) (σ : St) (x1 : Int32) (x2 : Int32) (x3 : Int32) (r : Unit × St), fJ7_fill_53178_33_l5 n σ x1 x2 x3 = some r → G k X 4 (none) (cw k.2.2.2 r.2) (cw k.2.2.2 σ) [(0, .ref (k.2.2.2.1 33)), (1, .int x1), (2, .int x2), (3, .int x3)] [] 5 := by
  intro n
  induction n with
  | zero => intro σ x1 x2 x3 r hf; cases hf
  | succ n ih => intro σ x1 x2 x3 r hf; exact fJ7_fill_53178_33_w5 E (fJ7_fill_53178_33_l5 n) ih σ x1 x2 x3 r hf
set_option maxHeartbeats 4000000 in
set_option maxRecDepth 100000 in
theorem fJ7_fill_53178_33_c (k : gK) (σ : St) (x1 : Int32) (r : Unit × St) (hf : fJ7_fill_53178_33 σ x1 = some r) : MC k yJ7_fill_53178 wsJ7_fill_53178 rm_fJ7_fill_53178_33 [.ref (k.2.2.2.1 33), .int x1] (cw k.2.2.2 σ) (none) (cw k.2.2.2 r.2) := by
  refine MC_of (cc := cJ7_fill_53178) (maxL := 4) (ret := none) (own := RJ7) (lvs := [(0, .ref (k.2.2.2.1 33)), (1, .int x1)]) (by decide) rfl rfl (Nat.le_of_ble_eq_true rfl) rfl (fun X E => ?_)
  unfold fJ7_fill_53178_33 at hf
  refine g_iconst (v := (0 : Int32)) E dJ7_fill_53178_0 (by decide) ?_
  refine g_istore_n E [(2, .int (0 : Int32)), (0, .ref (k.2.2.2.1 33)), (1, .int x1)] dJ7_fill_53178_1 rfl (by decide) rfl ?_
  refine g_aload_n E 1 dJ7_fill_53178_2 rfl rfl ?_
  refine g_alenI (v := (6 : Int32)) E 33 (σ.1 33) (cwG33 _ _) (by decide) dJ7_fill_53178_3 ?_
  refine g_istore_n E [(3, .int (6 : Int32)), (2, .int (0 : Int32)), (0, .ref (k.2.2.2.1 33)), (1, .int x1)] dJ7_fill_53178_4 rfl (by decide) rfl ?_
  exact g_sub [2, 3, 1, 0] rfl (fJ7_fill_53178_33_v5 E gF σ x1 (0 : Int32) (6 : Int32) r hf)
