theorem hi_X9_more_X9 : ∀ w ∈ wsX90, w ∈ wsX9_more := by decide +kernel
theorem hk_X9_more_118 : Cond.fieldLink RX9 118 "PaperMarksModel" "clauses" "I" ∈ wsX9_more := by decide +kernel
def rm_fX9_more : Room := { frames := 4, cells := 0, slots := 0, locals := 111 }
set_option maxHeartbeats 4000000 in
set_option maxRecDepth 100000 in
theorem fX9_more_c (k : gK) (σ : St) (x1 : Int32) (x2 : Int32) (x3 : Int32) (x4 : Int32) (r : Int64 × St) (hf : fX9_more σ x1 x2 x3 x4 = some r) : MC k yX9_more wsX9_more rm_fX9_more [.ref (k.2.2.2.1 0), .int x1, .int x2, .int x3, .int x4] (mw k.2.2.2 σ) (some (.long r.1)) (mw k.2.2.2 r.2) := by
  refine MC_of (cc := cX9_more) (maxL := 5) (ret := (some .long)) (own := RX9) (lvs := [(0, .ref (k.2.2.2.1 0)), (1, .int x1), (2, .int x2), (3, .int x3), (4, .int x4)]) (by decide) rfl rfl (Nat.le_of_ble_eq_true rfl) rfl (fun X E => ?_)
  unfold fX9_more at hf
  refine g_aload_n E 0 dX9_more_0 rfl rfl ?_
  refine g_iload_n E 1 dX9_more_1 rfl rfl ?_
  obtain ⟨q1, hq2, hf⟩ := gb hf
  refine g_callV (C := RX9) (T := TX9) (N := 20) (ci := 9) (As := [.int x1]) (rest := []) (n := 1) E 0 (fX9_isJudge_c k σ x1 q1 hq2) gX9_more_X9_isJudge rfl rfl rfl (by decide +kernel) ⟨Nat.le_of_ble_eq_true rfl, Nat.le_of_ble_eq_true rfl⟩ rfl rfl (Nat.le_of_ble_eq_true rfl) rfl (mwG0 _ _) dX9_more_2 ?_
  refine g_if_ne (tgt := 12) E dX9_more_5 (by decide) (fun c3 => ?_) (fun c3 => ?_)
  · have hf := gn hf c3
    refine g_iload_n E 2 dX9_more_12 rfl rfl ?_
    refine g_i2l E dX9_more_13 ?_
    refine g_lconst (v := (1 : Int64)) E dX9_more_14 (by decide) ?_
    refine g_ldc2 (v := (5 : Int64)) E (by decide +kernel) dX9_more_15 ?_
    obtain ⟨q4, hq5, hf⟩ := gb hf
    refine g_callS (As := [.long x2.toInt64, .long (1 : Int64), .long (5 : Int64)]) (rest := []) (n := 3) E (fX9_in_c k q1.2 x2.toInt64 (1 : Int64) (5 : Int64) q4 hq5) gX9_more_X9_in rfl rfl rfl (by decide +kernel) ⟨Nat.le_of_ble_eq_true rfl, Nat.le_of_ble_eq_true rfl⟩ rfl rfl (Nat.le_of_ble_eq_true rfl) dX9_more_18 ?_
    refine g_if_eq (tgt := 49) E dX9_more_21 (by decide) (fun c6 => ?_) (fun c6 => ?_)
    · have hf := gp hf c6
      refine g_ldc2 (v := (-1000000000000000002 : Int64)) E (by decide +kernel) dX9_more_49 ?_
      have hf := Option.some.inj hf
      subst hf
      exact g_lret E dX9_more_52
    · have hf := gn hf c6
      refine g_aload_n E 0 dX9_more_24 rfl rfl ?_
      refine g_iload_n E 3 dX9_more_25 rfl rfl ?_
      obtain ⟨q7, hq8, hf⟩ := gb hf
      refine g_callV (C := RX9) (T := TX9) (N := 20) (ci := 9) (As := [.int x3]) (rest := []) (n := 1) E 0 (fX9_isSet_c k q4.2 x3 q7 hq8) gX9_more_X9_isSet rfl rfl rfl (by decide +kernel) ⟨Nat.le_of_ble_eq_true rfl, Nat.le_of_ble_eq_true rfl⟩ rfl rfl (Nat.le_of_ble_eq_true rfl) rfl (mwG0 _ _) dX9_more_26 ?_
      refine g_if_eq (tgt := 49) E dX9_more_29 (by decide) (fun c9 => ?_) (fun c9 => ?_)
      · have hf := gp hf c9
        refine g_ldc2 (v := (-1000000000000000002 : Int64)) E (by decide +kernel) dX9_more_49 ?_
        have hf := Option.some.inj hf
        subst hf
        exact g_lret E dX9_more_52
      · have hf := gn hf c9
        refine g_iload_n E 3 dX9_more_32 rfl rfl ?_
        refine g_iload_n E 1 dX9_more_33 rfl rfl ?_
        refine g_ishr E dX9_more_34 ?_
        refine g_iconst (v := (1 : Int32)) E dX9_more_35 (by decide) ?_
        refine g_iand E dX9_more_36 ?_
        refine g_iconst (v := (1 : Int32)) E dX9_more_37 (by decide) ?_
        refine g_icmp_eq (tgt := 49) E dX9_more_38 (by decide) (fun c10 => ?_) (fun c10 => ?_)
        · have hf := gp hf c10
          refine g_ldc2 (v := (-1000000000000000002 : Int64)) E (by decide +kernel) dX9_more_49 ?_
          have hf := Option.some.inj hf
          subst hf
          exact g_lret E dX9_more_52
        · have hf := gn hf c10
          refine g_iload E 4 dX9_more_41 rfl ?_
          obtain ⟨q11, hq12, hf⟩ := gb hf
          refine g_callS (As := [.int x4]) (rest := []) (n := 1) E (fX9_isPart_c k q7.2 x4 q11 hq12) gX9_more_X9_isPart rfl rfl rfl (by decide +kernel) ⟨Nat.le_of_ble_eq_true rfl, Nat.le_of_ble_eq_true rfl⟩ rfl rfl (Nat.le_of_ble_eq_true rfl) dX9_more_43 ?_
          refine g_if_ne (tgt := 53) E dX9_more_46 (by decide) (fun c13 => ?_) (fun c13 => ?_)
          · have hf := gn hf c13
            refine g_aload_n E 0 dX9_more_53 rfl rfl ?_
            refine g_get (C := RX9) (T := TX9) (N := 20) (ci := 9) E 0 17 (.int (q11.2.2.1 3)) hi_X9_more_X9 (mwG0 _ _) rfl (by decide) hk_X9_more_118 rfl dX9_more_54 ?_
            refine g_if_ne (tgt := 66) E dX9_more_57 (by decide) (fun c14 => ?_) (fun c14 => ?_)
            · have hf := gn hf c14
              refine g_aload_n E 0 dX9_more_66 rfl rfl ?_
              refine g_iload_n E 2 dX9_more_67 rfl rfl ?_
              refine g_iload_n E 3 dX9_more_68 rfl rfl ?_
              refine g_iconst (v := (1 : Int32)) E dX9_more_69 (by decide) ?_
              refine g_iload_n E 1 dX9_more_70 rfl rfl ?_
              refine g_ishl E dX9_more_71 ?_
              refine g_ior E dX9_more_72 ?_
              obtain ⟨q15, hq16, hf⟩ := gb hf
              refine g_callV (C := RX9) (T := TX9) (N := 20) (ci := 9) (As := [.int x2, .int (x3 ||| (((1 : Int32) <<< (x1 &&& 31))))]) (rest := []) (n := 2) E 0 (fX9_rightOf_c k q11.2 x2 ((x3 ||| (((1 : Int32) <<< (x1 &&& 31))))) q15 hq16) gX9_more_X9_rightOf rfl rfl rfl (by decide +kernel) ⟨Nat.le_of_ble_eq_true rfl, Nat.le_of_ble_eq_true rfl⟩ rfl rfl (Nat.le_of_ble_eq_true rfl) rfl (mwG0 _ _) dX9_more_73 ?_
              refine g_aload_n E 0 dX9_more_76 rfl rfl ?_
              refine g_iload_n E 2 dX9_more_77 rfl rfl ?_
              refine g_iload_n E 3 dX9_more_78 rfl rfl ?_
              obtain ⟨q17, hq18, hf⟩ := gb hf
              refine g_callV (C := RX9) (T := TX9) (N := 20) (ci := 9) (As := [.int x2, .int x3]) (rest := [.long q15.1]) (n := 2) E 0 (fX9_rightOf_c k q15.2 x2 x3 q17 hq18) gX9_more_X9_rightOf rfl rfl rfl (by decide +kernel) ⟨Nat.le_of_ble_eq_true rfl, Nat.le_of_ble_eq_true rfl⟩ rfl rfl (Nat.le_of_ble_eq_true rfl) rfl (mwG0 _ _) dX9_more_79 ?_
              refine g_lsub E dX9_more_82 ?_
              refine g_ldc2 (v := (4 : Int64)) E (by decide +kernel) dX9_more_83 ?_
              refine g_bipush (v := (7 : Int32)) E dX9_more_86 (by decide) ?_
              obtain ⟨q19, hq20, hf⟩ := gb hf
              refine g_callS (As := [.long (4 : Int64), .int (7 : Int32)]) (rest := [.long (q15.1 - q17.1)]) (n := 2) E (fX9_power_c k q17.2 (4 : Int64) (7 : Int32) q19 hq20) gX9_more_X9_power rfl rfl rfl (by decide +kernel) ⟨Nat.le_of_ble_eq_true rfl, Nat.le_of_ble_eq_true rfl⟩ rfl rfl (Nat.le_of_ble_eq_true rfl) dX9_more_88 ?_
              refine g_iload E 4 dX9_more_91 rfl ?_
              obtain ⟨q21, hq22, hf⟩ := gb hf
              refine g_callS (As := [.long (q15.1 - q17.1), .long q19.1, .int x4]) (rest := []) (n := 3) E (fX9_lowest_c k q19.2 (q15.1 - q17.1) q19.1 x4 q21 hq22) gX9_more_X9_lowest rfl rfl rfl (by decide +kernel) ⟨Nat.le_of_ble_eq_true rfl, Nat.le_of_ble_eq_true rfl⟩ rfl rfl (Nat.le_of_ble_eq_true rfl) dX9_more_93 ?_
              have hf := Option.some.inj hf
              subst hf
              exact g_lret E dX9_more_96
            · have hf := gp hf c14
              refine g_ldc2 (v := (-1000000000000000003 : Int64)) E (by decide +kernel) dX9_more_60 ?_
              refine g_goto (tgt := 96) E dX9_more_63 (by decide) ?_
              have hf := Option.some.inj hf
              subst hf
              exact g_lret E dX9_more_96
          · have hf := gp hf c13
            refine g_ldc2 (v := (-1000000000000000002 : Int64)) E (by decide +kernel) dX9_more_49 ?_
            have hf := Option.some.inj hf
            subst hf
            exact g_lret E dX9_more_52
  · have hf := gp hf c3
    refine g_ldc2 (v := (-1000000000000000001 : Int64)) E (by decide +kernel) dX9_more_8 ?_
    have hf := Option.some.inj hf
    subst hf
    exact g_lret E dX9_more_11
