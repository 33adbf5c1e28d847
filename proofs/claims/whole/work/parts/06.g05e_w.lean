theorem hi_X8_agreement_X8 : ∀ w ∈ wsX80, w ∈ wsX8_agreement := by decide +kernel
theorem hi_X8_agreement_X4 : ∀ w ∈ wsX40, w ∈ wsX8_agreement := by decide +kernel
theorem hk_X8_agreement_19 : Cond.fieldLink RX8 19 "PaperMarks" "papers" "LPaperMarks$Papers;" ∈ wsX8_agreement := by decide +kernel
theorem hk_X8_agreement_105 : Cond.fieldLink RX8 105 "PaperMarks$Papers" "laters" "[I" ∈ wsX8_agreement := by decide +kernel
theorem hk_X8_agreement_26 : Cond.fieldLink RX8 26 "PaperMarks" "marks" "LPaperMarks$Marks;" ∈ wsX8_agreement := by decide +kernel
def rm_fX8_agreement : Room := { frames := 4, cells := 0, slots := 0, locals := 88 }
set_option maxHeartbeats 4000000 in
set_option maxRecDepth 100000 in
theorem fX8_agreement_c (k : gK) (σ : St) (x1 : Int32) (x2 : Int32) (r : Int32 × St) (hf : fX8_agreement σ x1 x2 = some r) : MC k yX8_agreement wsX8_agreement rm_fX8_agreement [.ref (k.2.2.2.1 0), .int x1, .int x2] (cw k.2.2.2 σ) (some (.int r.1)) (cw k.2.2.2 r.2) := by
  refine MC_of (cc := cX8_agreement) (maxL := 8) (ret := (some .int)) (own := RX8) (lvs := [(0, .ref (k.2.2.2.1 0)), (1, .int x1), (2, .int x2)]) (by decide) rfl rfl (Nat.le_of_ble_eq_true rfl) rfl (fun X E => ?_)
  unfold fX8_agreement at hf
  refine g_aload_n E 0 dX8_agreement_0 rfl rfl ?_
  refine g_get (C := RX8) (T := TX8) (N := 7) (ci := 8) E 0 1 (.ref (k.2.2.2.1 2)) hi_X8_agreement_X8 (cwG0 _ _) rfl (by decide) hk_X8_agreement_19 rfl dX8_agreement_1 ?_
  refine g_get (C := RX4) (T := TX4) (N := 6) (ci := 4) E 2 3 (.ref (k.2.2.2.1 17)) hi_X8_agreement_X4 (cwG2 _ _) rfl (by decide) hk_X8_agreement_105 rfl dX8_agreement_4 ?_
  refine g_iload_n E 1 dX8_agreement_7 rfl rfl ?_
  obtain ⟨hi1, hf⟩ := gd hf
  refine g_iald E 17 (σ.1 17) (cwG17 _ _) hi1 dX8_agreement_8 ?_
  refine g_istore_n E [(3, .int (σ.1 17 x1.toNatClampNeg)), (0, .ref (k.2.2.2.1 0)), (1, .int x1), (2, .int x2)] dX8_agreement_9 rfl (by decide) rfl ?_
  refine g_aload_n E 1 dX8_agreement_10 rfl rfl ?_
  refine g_get (C := RX8) (T := TX8) (N := 7) (ci := 8) E 0 1 (.ref (k.2.2.2.1 2)) hi_X8_agreement_X8 (cwG0 _ _) rfl (by decide) hk_X8_agreement_19 rfl dX8_agreement_11 ?_
  refine g_get (C := RX4) (T := TX4) (N := 6) (ci := 4) E 2 3 (.ref (k.2.2.2.1 17)) hi_X8_agreement_X4 (cwG2 _ _) rfl (by decide) hk_X8_agreement_105 rfl dX8_agreement_14 ?_
  refine g_iload_n E 3 dX8_agreement_17 rfl rfl ?_
  obtain ⟨hi2, hf⟩ := gd hf
  refine g_iald E 17 (σ.1 17) (cwG17 _ _) hi2 dX8_agreement_18 ?_
  refine g_istore E [(4, .int (σ.1 17 x2.toNatClampNeg)), (3, .int (σ.1 17 x1.toNatClampNeg)), (0, .ref (k.2.2.2.1 0)), (1, .int x1), (2, .int x2)] dX8_agreement_19 (by decide) rfl ?_
  refine g_aload_n E 2 dX8_agreement_21 rfl rfl ?_
  refine g_get (C := RX8) (T := TX8) (N := 7) (ci := 8) E 0 2 (.ref (k.2.2.2.1 3)) hi_X8_agreement_X8 (cwG0 _ _) rfl (by decide) hk_X8_agreement_26 rfl dX8_agreement_22 ?_
  refine g_iload_n E 3 dX8_agreement_25 rfl rfl ?_
  obtain ⟨q3, hq4, hf⟩ := gb hf
  refine g_callV (C := RX1) (T := TX1) (N := 2) (ci := 1) (As := [.int x1]) (rest := []) (n := 1) E 3 (fX1_countOf_c k σ x1 q3 hq4) gX8_agreement_X1_countOf rfl rfl rfl (by decide +kernel) ⟨Nat.le_of_ble_eq_true rfl, Nat.le_of_ble_eq_true rfl⟩ rfl rfl (Nat.le_of_ble_eq_true rfl) rfl (cwG3 _ _) dX8_agreement_26 ?_
  refine g_istore E [(5, .int q3.1), (4, .int (σ.1 17 x2.toNatClampNeg)), (3, .int (σ.1 17 x1.toNatClampNeg)), (0, .ref (k.2.2.2.1 0)), (1, .int x1), (2, .int x2)] dX8_agreement_29 (by decide) rfl ?_
  refine g_aload_n E 3 dX8_agreement_31 rfl rfl ?_
  refine g_get (C := RX8) (T := TX8) (N := 7) (ci := 8) E 0 2 (.ref (k.2.2.2.1 3)) hi_X8_agreement_X8 (cwG0 _ _) rfl (by decide) hk_X8_agreement_26 rfl dX8_agreement_32 ?_
  refine g_iload_n E 5 dX8_agreement_35 rfl rfl ?_
  obtain ⟨q5, hq6, hf⟩ := gb hf
  refine g_callV (C := RX1) (T := TX1) (N := 2) (ci := 1) (As := [.int x2]) (rest := []) (n := 1) E 3 (fX1_countOf_c k q3.2 x2 q5 hq6) gX8_agreement_X1_countOf rfl rfl rfl (by decide +kernel) ⟨Nat.le_of_ble_eq_true rfl, Nat.le_of_ble_eq_true rfl⟩ rfl rfl (Nat.le_of_ble_eq_true rfl) rfl (cwG3 _ _) dX8_agreement_36 ?_
  refine g_istore E [(6, .int q5.1), (5, .int q3.1), (4, .int (σ.1 17 x2.toNatClampNeg)), (3, .int (σ.1 17 x1.toNatClampNeg)), (0, .ref (k.2.2.2.1 0)), (1, .int x1), (2, .int x2)] dX8_agreement_39 (by decide) rfl ?_
  refine g_iload_n E 3 dX8_agreement_41 rfl rfl ?_
  refine g_bipush (v := (-6 : Int32)) E dX8_agreement_42 (by decide) ?_
  refine g_icmp_eq (tgt := 64) E dX8_agreement_44 (by decide) (fun c7 => ?_) (fun c7 => ?_)
  · have hf := gp hf c7
    refine g_iconst (v := (0 : Int32)) E dX8_agreement_64 (by decide) ?_
    have hf := Option.some.inj hf
    subst hf
    exact g_iret E dX8_agreement_65
  · have hf := gn hf c7
    refine g_iload E 2 dX8_agreement_47 rfl ?_
    refine g_bipush (v := (-6 : Int32)) E dX8_agreement_49 (by decide) ?_
    refine g_icmp_eq (tgt := 64) E dX8_agreement_51 (by decide) (fun c8 => ?_) (fun c8 => ?_)
    · have hf := gp hf c8
      refine g_iconst (v := (0 : Int32)) E dX8_agreement_64 (by decide) ?_
      have hf := Option.some.inj hf
      subst hf
      exact g_iret E dX8_agreement_65
    · have hf := gn hf c8
      refine g_iload E 1 dX8_agreement_54 rfl ?_
      refine g_if_eq (tgt := 64) E dX8_agreement_56 (by decide) (fun c9 => ?_) (fun c9 => ?_)
      · have hf := gp hf c9
        refine g_iconst (v := (0 : Int32)) E dX8_agreement_64 (by decide) ?_
        have hf := Option.some.inj hf
        subst hf
        exact g_iret E dX8_agreement_65
      · have hf := gn hf c9
        refine g_iload E 0 dX8_agreement_59 rfl ?_
        refine g_if_ne (tgt := 66) E dX8_agreement_61 (by decide) (fun c10 => ?_) (fun c10 => ?_)
        · have hf := gn hf c10
          refine g_aload_n E 4 dX8_agreement_66 rfl rfl ?_
          refine g_get (C := RX8) (T := TX8) (N := 7) (ci := 8) E 0 2 (.ref (k.2.2.2.1 3)) hi_X8_agreement_X8 (cwG0 _ _) rfl (by decide) hk_X8_agreement_26 rfl dX8_agreement_67 ?_
          refine g_iload_n E 5 dX8_agreement_70 rfl rfl ?_
          obtain ⟨q11, hq12, hf⟩ := gb hf
          refine g_callV (C := RX1) (T := TX1) (N := 2) (ci := 1) (As := [.int x1]) (rest := []) (n := 1) E 3 (fX1_sumOf_c k q5.2 x1 q11 hq12) gX8_agreement_X1_sumOf rfl rfl rfl (by decide +kernel) ⟨Nat.le_of_ble_eq_true rfl, Nat.le_of_ble_eq_true rfl⟩ rfl rfl (Nat.le_of_ble_eq_true rfl) rfl (cwG3 _ _) dX8_agreement_71 ?_
          refine g_iload E 0 dX8_agreement_74 rfl ?_
          refine g_imul E dX8_agreement_76 ?_
          refine g_aload_n E 4 dX8_agreement_77 rfl rfl ?_
          refine g_get (C := RX8) (T := TX8) (N := 7) (ci := 8) E 0 2 (.ref (k.2.2.2.1 3)) hi_X8_agreement_X8 (cwG0 _ _) rfl (by decide) hk_X8_agreement_26 rfl dX8_agreement_78 ?_
          refine g_iload_n E 6 dX8_agreement_81 rfl rfl ?_
          obtain ⟨q13, hq14, hf⟩ := gb hf
          refine g_callV (C := RX1) (T := TX1) (N := 2) (ci := 1) (As := [.int x2]) (rest := [.int (q11.1 * q5.1)]) (n := 1) E 3 (fX1_sumOf_c k q11.2 x2 q13 hq14) gX8_agreement_X1_sumOf rfl rfl rfl (by decide +kernel) ⟨Nat.le_of_ble_eq_true rfl, Nat.le_of_ble_eq_true rfl⟩ rfl rfl (Nat.le_of_ble_eq_true rfl) rfl (cwG3 _ _) dX8_agreement_82 ?_
          refine g_iload E 1 dX8_agreement_85 rfl ?_
          refine g_imul E dX8_agreement_87 ?_
          obtain ⟨q15, hq16, hf⟩ := gb hf
          refine g_callS (As := [.int (q11.1 * q5.1), .int (q13.1 * q3.1)]) (rest := []) (n := 2) E (fJ6_compare_7cf53_c k q13.2 (q11.1 * q5.1) (q13.1 * q3.1) q15 hq16) gX8_agreement_J6_compare_7cf53 rfl rfl rfl (by decide +kernel) ⟨Nat.le_of_ble_eq_true rfl, Nat.le_of_ble_eq_true rfl⟩ rfl rfl (Nat.le_of_ble_eq_true rfl) dX8_agreement_88 ?_
          refine g_istore E [(7, .int q15.1), (6, .int q5.1), (5, .int q3.1), (4, .int (σ.1 17 x2.toNatClampNeg)), (3, .int (σ.1 17 x1.toNatClampNeg)), (0, .ref (k.2.2.2.1 0)), (1, .int x1), (2, .int x2)] dX8_agreement_91 (by decide) rfl ?_
          refine g_iload E 0 dX8_agreement_93 rfl ?_
          refine g_iload_n E 4 dX8_agreement_95 rfl rfl ?_
          refine g_iload E 3 dX8_agreement_96 rfl ?_
          obtain ⟨q17, hq18, hf⟩ := gb hf
          refine g_callS (As := [.int (σ.1 17 x1.toNatClampNeg), .int (σ.1 17 x2.toNatClampNeg)]) (rest := [.int q15.1]) (n := 2) E (fJ6_compare_7cf53_c k q15.2 (σ.1 17 x1.toNatClampNeg) (σ.1 17 x2.toNatClampNeg) q17 hq18) gX8_agreement_J6_compare_7cf53 rfl rfl rfl (by decide +kernel) ⟨Nat.le_of_ble_eq_true rfl, Nat.le_of_ble_eq_true rfl⟩ rfl rfl (Nat.le_of_ble_eq_true rfl) dX8_agreement_98 ?_
          refine g_imul E dX8_agreement_101 ?_
          have hf := Option.some.inj hf
          subst hf
          exact g_iret E dX8_agreement_102
        · have hf := gp hf c10
          refine g_iconst (v := (0 : Int32)) E dX8_agreement_64 (by decide) ?_
          have hf := Option.some.inj hf
          subst hf
          exact g_iret E dX8_agreement_65
