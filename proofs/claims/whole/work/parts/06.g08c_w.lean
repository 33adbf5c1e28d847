theorem hi_X9_lot_X9 : ∀ w ∈ wsX90, w ∈ wsX9_lot := by decide +kernel
theorem hk_X9_lot_118 : Cond.fieldLink RX9 118 "PaperMarksModel" "clauses" "I" ∈ wsX9_lot := by decide +kernel
def rm_fX9_lot : Room := { frames := 3, cells := 0, slots := 0, locals := 82 }
set_option maxHeartbeats 4000000 in
set_option maxRecDepth 100000 in
theorem fX9_lot_c (k : gK) (σ : St) (x1 : Int32) (x2 : Int32) (x3 : Int32) (x4 : Int32) (r : Int64 × St) (hf : fX9_lot σ x1 x2 x3 x4 = some r) : MC k yX9_lot wsX9_lot rm_fX9_lot [.ref (k.2.2.2.1 0), .int x1, .int x2, .int x3, .int x4] (mw k.2.2.2 σ) (some (.long r.1)) (mw k.2.2.2 r.2) := by
  refine MC_of (cc := cX9_lot) (maxL := 13) (ret := (some .long)) (own := RX9) (lvs := [(0, .ref (k.2.2.2.1 0)), (1, .int x1), (2, .int x2), (3, .int x3), (4, .int x4)]) (by decide) rfl rfl (Nat.le_of_ble_eq_true rfl) rfl (fun X E => ?_)
  unfold fX9_lot at hf
  refine g_aload_n E 0 dX9_lot_0 rfl rfl ?_
  refine g_iload_n E 1 dX9_lot_1 rfl rfl ?_
  obtain ⟨q1, hq2, hf⟩ := gb hf
  refine g_callV (C := RX9) (T := TX9) (N := 20) (ci := 9) (As := [.int x1]) (rest := []) (n := 1) E 0 (fX9_isPaper_c k σ x1 q1 hq2) gX9_lot_X9_isPaper rfl rfl rfl (by decide +kernel) ⟨Nat.le_of_ble_eq_true rfl, Nat.le_of_ble_eq_true rfl⟩ rfl rfl (Nat.le_of_ble_eq_true rfl) rfl (mwG0 _ _) dX9_lot_2 ?_
  refine g_if_ne (tgt := 12) E dX9_lot_5 (by decide) (fun c3 => ?_) (fun c3 => ?_)
  · have hf := gn hf c3
    refine g_aload_n E 0 dX9_lot_12 rfl rfl ?_
    refine g_iload_n E 2 dX9_lot_13 rfl rfl ?_
    obtain ⟨q4, hq5, hf⟩ := gb hf
    refine g_callV (C := RX9) (T := TX9) (N := 20) (ci := 9) (As := [.int x2]) (rest := []) (n := 1) E 0 (fX9_isSet_c k q1.2 x2 q4 hq5) gX9_lot_X9_isSet rfl rfl rfl (by decide +kernel) ⟨Nat.le_of_ble_eq_true rfl, Nat.le_of_ble_eq_true rfl⟩ rfl rfl (Nat.le_of_ble_eq_true rfl) rfl (mwG0 _ _) dX9_lot_14 ?_
    refine g_if_eq (tgt := 36) E dX9_lot_17 (by decide) (fun c6 => ?_) (fun c6 => ?_)
    · have hf := gp hf c6
      refine g_ldc2 (v := (-1000000000000000002 : Int64)) E (by decide +kernel) dX9_lot_36 ?_
      have hf := Option.some.inj hf
      subst hf
      exact g_lret E dX9_lot_39
    · have hf := gn hf c6
      refine g_aload_n E 0 dX9_lot_20 rfl rfl ?_
      refine g_iload_n E 3 dX9_lot_21 rfl rfl ?_
      obtain ⟨q7, hq8, hf⟩ := gb hf
      refine g_callV (C := RX9) (T := TX9) (N := 20) (ci := 9) (As := [.int x3]) (rest := []) (n := 1) E 0 (fX9_isSet_c k q4.2 x3 q7 hq8) gX9_lot_X9_isSet rfl rfl rfl (by decide +kernel) ⟨Nat.le_of_ble_eq_true rfl, Nat.le_of_ble_eq_true rfl⟩ rfl rfl (Nat.le_of_ble_eq_true rfl) rfl (mwG0 _ _) dX9_lot_22 ?_
      refine g_if_eq (tgt := 36) E dX9_lot_25 (by decide) (fun c9 => ?_) (fun c9 => ?_)
      · have hf := gp hf c9
        refine g_ldc2 (v := (-1000000000000000002 : Int64)) E (by decide +kernel) dX9_lot_36 ?_
        have hf := Option.some.inj hf
        subst hf
        exact g_lret E dX9_lot_39
      · have hf := gn hf c9
        refine g_iload E 4 dX9_lot_28 rfl ?_
        obtain ⟨q10, hq11, hf⟩ := gb hf
        refine g_callS (As := [.int x4]) (rest := []) (n := 1) E (fX9_isPart_c k q7.2 x4 q10 hq11) gX9_lot_X9_isPart rfl rfl rfl (by decide +kernel) ⟨Nat.le_of_ble_eq_true rfl, Nat.le_of_ble_eq_true rfl⟩ rfl rfl (Nat.le_of_ble_eq_true rfl) dX9_lot_30 ?_
        refine g_if_ne (tgt := 40) E dX9_lot_33 (by decide) (fun c12 => ?_) (fun c12 => ?_)
        · have hf := gn hf c12
          refine g_aload_n E 0 dX9_lot_40 rfl rfl ?_
          refine g_get (C := RX9) (T := TX9) (N := 20) (ci := 9) E 0 17 (.int (q10.2.2.1 3)) hi_X9_lot_X9 (mwG0 _ _) rfl (by decide) hk_X9_lot_118 rfl dX9_lot_41 ?_
          refine g_if_ne (tgt := 51) E dX9_lot_44 (by decide) (fun c13 => ?_) (fun c13 => ?_)
          · have hf := gn hf c13
            refine g_aload_n E 0 dX9_lot_51 rfl rfl ?_
            refine g_iload_n E 1 dX9_lot_52 rfl rfl ?_
            refine g_iload_n E 2 dX9_lot_53 rfl rfl ?_
            obtain ⟨q14, hq15, hf⟩ := gb hf
            refine g_callV (C := RX9) (T := TX9) (N := 20) (ci := 9) (As := [.int x1, .int x2]) (rest := []) (n := 2) E 0 (fX9_takenOf_c k q10.2 x1 x2 q14 hq15) gX9_lot_X9_takenOf rfl rfl rfl (by decide +kernel) ⟨Nat.le_of_ble_eq_true rfl, Nat.le_of_ble_eq_true rfl⟩ rfl rfl (Nat.le_of_ble_eq_true rfl) rfl (mwG0 _ _) dX9_lot_54 ?_
            refine g_lstore E [(5, .long q14.1), (0, .ref (k.2.2.2.1 0)), (1, .int x1), (2, .int x2), (3, .int x3), (4, .int x4)] dX9_lot_57 (by decide) rfl ?_
            refine g_aload_n E 1 dX9_lot_59 rfl rfl ?_
            refine g_iload_n E 2 dX9_lot_60 rfl rfl ?_
            refine g_iload_n E 4 dX9_lot_61 rfl rfl ?_
            obtain ⟨q16, hq17, hf⟩ := gb hf
            refine g_callV (C := RX9) (T := TX9) (N := 20) (ci := 9) (As := [.int x1, .int x3]) (rest := []) (n := 2) E 0 (fX9_takenOf_c k q14.2 x1 x3 q16 hq17) gX9_lot_X9_takenOf rfl rfl rfl (by decide +kernel) ⟨Nat.le_of_ble_eq_true rfl, Nat.le_of_ble_eq_true rfl⟩ rfl rfl (Nat.le_of_ble_eq_true rfl) rfl (mwG0 _ _) dX9_lot_62 ?_
            refine g_lstore E [(7, .long q16.1), (5, .long q14.1), (0, .ref (k.2.2.2.1 0)), (1, .int x1), (2, .int x2), (3, .int x3), (4, .int x4)] dX9_lot_65 (by decide) rfl ?_
            refine g_aload_n E 2 dX9_lot_67 rfl rfl ?_
            refine g_iload_n E 3 dX9_lot_68 rfl rfl ?_
            refine g_iload_n E 4 dX9_lot_69 rfl rfl ?_
            obtain ⟨q18, hq19, hf⟩ := gb hf
            refine g_callV (C := RX9) (T := TX9) (N := 20) (ci := 9) (As := [.int x1, .int x2]) (rest := []) (n := 2) E 0 (fX9_allOf_c k q16.2 x1 x2 q18 hq19) gX9_lot_X9_allOf rfl rfl rfl (by decide +kernel) ⟨Nat.le_of_ble_eq_true rfl, Nat.le_of_ble_eq_true rfl⟩ rfl rfl (Nat.le_of_ble_eq_true rfl) rfl (mwG0 _ _) dX9_lot_70 ?_
            refine g_lstore E [(9, .long q18.1), (7, .long q16.1), (5, .long q14.1), (0, .ref (k.2.2.2.1 0)), (1, .int x1), (2, .int x2), (3, .int x3), (4, .int x4)] dX9_lot_73 (by decide) rfl ?_
            refine g_aload_n E 3 dX9_lot_75 rfl rfl ?_
            refine g_iload_n E 4 dX9_lot_76 rfl rfl ?_
            refine g_iload_n E 6 dX9_lot_77 rfl rfl ?_
            obtain ⟨q20, hq21, hf⟩ := gb hf
            refine g_callV (C := RX9) (T := TX9) (N := 20) (ci := 9) (As := [.int x1, .int x3]) (rest := []) (n := 2) E 0 (fX9_allOf_c k q18.2 x1 x3 q20 hq21) gX9_lot_X9_allOf rfl rfl rfl (by decide +kernel) ⟨Nat.le_of_ble_eq_true rfl, Nat.le_of_ble_eq_true rfl⟩ rfl rfl (Nat.le_of_ble_eq_true rfl) rfl (mwG0 _ _) dX9_lot_78 ?_
            refine g_lstore E [(11, .long q20.1), (9, .long q18.1), (7, .long q16.1), (5, .long q14.1), (0, .ref (k.2.2.2.1 0)), (1, .int x1), (2, .int x2), (3, .int x3), (4, .int x4)] dX9_lot_81 (by decide) rfl ?_
            refine g_lload E 3 dX9_lot_83 rfl ?_
            refine g_lload E 0 dX9_lot_85 rfl ?_
            refine g_lload E 2 dX9_lot_87 rfl ?_
            refine g_lsub E dX9_lot_89 ?_
            refine g_lmul E dX9_lot_90 ?_
            refine g_lload E 2 dX9_lot_91 rfl ?_
            refine g_lload E 1 dX9_lot_93 rfl ?_
            refine g_lload E 3 dX9_lot_95 rfl ?_
            refine g_lsub E dX9_lot_97 ?_
            refine g_lmul E dX9_lot_98 ?_
            refine g_ladd E dX9_lot_99 ?_
            refine g_lload E 1 dX9_lot_100 rfl ?_
            refine g_lload E 0 dX9_lot_102 rfl ?_
            refine g_lmul E dX9_lot_104 ?_
            refine g_iload E 8 dX9_lot_105 rfl ?_
            obtain ⟨q22, hq23, hf⟩ := gb hf
            refine g_callS (As := [.long (((q14.1 * (q20.1 - q16.1))) + ((q16.1 * (q18.1 - q14.1)))), .long (q18.1 * q20.1), .int x4]) (rest := []) (n := 3) E (fX9_lowest_c k q20.2 ((((q14.1 * (q20.1 - q16.1))) + ((q16.1 * (q18.1 - q14.1))))) (q18.1 * q20.1) x4 q22 hq23) gX9_lot_X9_lowest rfl rfl rfl (by decide +kernel) ⟨Nat.le_of_ble_eq_true rfl, Nat.le_of_ble_eq_true rfl⟩ rfl rfl (Nat.le_of_ble_eq_true rfl) dX9_lot_107 ?_
            have hf := Option.some.inj hf
            subst hf
            exact g_lret E dX9_lot_110
          · have hf := gp hf c13
            refine g_ldc2 (v := (-1000000000000000003 : Int64)) E (by decide +kernel) dX9_lot_47 ?_
            have hf := Option.some.inj hf
            subst hf
            exact g_lret E dX9_lot_50
        · have hf := gp hf c12
          refine g_ldc2 (v := (-1000000000000000002 : Int64)) E (by decide +kernel) dX9_lot_36 ?_
          have hf := Option.some.inj hf
          subst hf
          exact g_lret E dX9_lot_39
  · have hf := gp hf c3
    refine g_ldc2 (v := (-1000000000000000001 : Int64)) E (by decide +kernel) dX9_lot_8 ?_
    have hf := Option.some.inj hf
    subst hf
    exact g_lret E dX9_lot_11
theorem hi_X9_rightOf_X9 : ∀ w ∈ wsX90, w ∈ wsX9_rightOf := by decide +kernel
theorem hk_X9_rightOf_67 : Cond.fieldLink RX9 67 "PaperMarksModel" "papers" "I" ∈ wsX9_rightOf := by decide +kernel
theorem hk_X9_rightOf_22 : Cond.fieldLink RX9 22 "PaperMarksModel" "worths" "[I" ∈ wsX9_rightOf := by decide +kernel
def rm_fX9_rightOf : Room := { frames := 3, cells := 0, slots := 0, locals := 82 }
set_option maxHeartbeats 4000000 in
set_option maxRecDepth 100000 in
theorem fX9_rightOf_w65 {k : gK} {X : gX} (E : gE k X cX9_rightOf RX9 wsX9_rightOf 10 (some .long) rm_fX9_rightOf) (rc15 : St → Int32 → Int32 → Int64 → Int64 → Int32 → Option (Int64 × St)) (hrc15 : ∀ (σ : St) (x1 : Int32) (x2 : Int32) (x3 : Int64) (x5 : Int64) (x7 : Int32) (r : Int64 × St), rc15 σ x1 x2 x3 x5 x7 = some r → G k X 10 (some (.long r.1)) (mw k.2.2.2 r.2) (mw k.2.2.2 σ) [(0, .ref (k.2.2.2.1 0)), (1, .int x1), (2, .int x2), (3, .long x3), (5, .long x5), (7, .int x7)] [] 15) (σ : St) (x1 : Int32) (x2 : Int32) (x3 : Int64) (x7 : Int32) (t0 : Int64) (t1 : Int64) (r : Int64 × St) (hf : fX9_rightOf_b65 rc15 σ x1 x2 x3 x7 t0 t1 = some r) : G k X 10 (some (.long r.1)) (mw k.2.2.2 r.2) (mw k.2.2.2 σ) [(0, .ref (k.2.2.2.1 0)), (1, .int x1), (2, .int x2), (3, .long x3), (7, .int x7)] [.long t1, .long t0] 65 := by
  unfold fX9_rightOf_b65 at hf
  refine g_ladd E dX9_rightOf_65 ?_
  refine g_lstore E [(5, .long (t0 + t1)), (0, .ref (k.2.2.2.1 0)), (1, .int x1), (2, .int x2), (3, .long x3), (7, .int x7)] dX9_rightOf_66 (by decide) rfl ?_
  refine g_iinc E 5 [(7, .int (x7 + (1 : Int32))), (5, .long (t0 + t1)), (0, .ref (k.2.2.2.1 0)), (1, .int x1), (2, .int x2), (3, .long x3)] (x7 + (1 : Int32)) dX9_rightOf_68 rfl (by rfl) (by decide) rfl ?_
  refine g_goto (tgt := 15) E dX9_rightOf_71 (by decide) ?_
  exact g_sub [2, 3, 4, 5, 1, 0] rfl (hrc15 σ x1 x2 x3 (t0 + t1) (x7 + (1 : Int32)) r hf)
set_option maxHeartbeats 4000000 in
set_option maxRecDepth 100000 in
theorem fX9_rightOf_w15 {k : gK} {X : gX} (E : gE k X cX9_rightOf RX9 wsX9_rightOf 10 (some .long) rm_fX9_rightOf) (rc15 : St → Int32 → Int32 → Int64 → Int64 → Int32 → Option (Int64 × St)) (hrc15 : ∀ (σ : St) (x1 : Int32) (x2 : Int32) (x3 : Int64) (x5 : Int64) (x7 : Int32) (r : Int64 × St), rc15 σ x1 x2 x3 x5 x7 = some r → G k X 10 (some (.long r.1)) (mw k.2.2.2 r.2) (mw k.2.2.2 σ) [(0, .ref (k.2.2.2.1 0)), (1, .int x1), (2, .int x2), (3, .long x3), (5, .long x5), (7, .int x7)] [] 15) (σ : St) (x1 : Int32) (x2 : Int32) (x3 : Int64) (x5 : Int64) (x7 : Int32) (r : Int64 × St) (hf : fX9_rightOf_b15 rc15 σ x1 x2 x3 x5 x7 = some r) : G k X 10 (some (.long r.1)) (mw k.2.2.2 r.2) (mw k.2.2.2 σ) [(0, .ref (k.2.2.2.1 0)), (1, .int x1), (2, .int x2), (3, .long x3), (5, .long x5), (7, .int x7)] [] 15 := by
  unfold fX9_rightOf_b15 at hf
  refine g_iload E 5 dX9_rightOf_15 rfl ?_
  refine g_aload_n E 0 dX9_rightOf_17 rfl rfl ?_
  refine g_get (C := RX9) (T := TX9) (N := 20) (ci := 9) E 0 9 (.int (σ.2.1 1)) hi_X9_rightOf_X9 (mwG0 _ _) rfl (by decide) hk_X9_rightOf_67 rfl dX9_rightOf_18 ?_
  refine g_icmp_ge (tgt := 74) E dX9_rightOf_21 (by decide) (fun c1 => ?_) (fun c1 => ?_)
  · have hf := gp hf c1
    refine g_lload E 4 dX9_rightOf_74 rfl ?_
    have hf := Option.some.inj hf
    subst hf
    exact g_lret E dX9_rightOf_76
  · have hf := gn hf c1
    refine g_aload_n E 0 dX9_rightOf_24 rfl rfl ?_
    refine g_iload E 5 dX9_rightOf_25 rfl ?_
    refine g_iload_n E 2 dX9_rightOf_27 rfl rfl ?_
    obtain ⟨q2, hq3, hf⟩ := gb hf
    refine g_callV (C := RX9) (T := TX9) (N := 20) (ci := 9) (As := [.int x7, .int x2]) (rest := []) (n := 2) E 0 (fX9_takenOf_c k σ x7 x2 q2 hq3) gX9_rightOf_X9_takenOf rfl rfl rfl (by decide +kernel) ⟨Nat.le_of_ble_eq_true rfl, Nat.le_of_ble_eq_true rfl⟩ rfl rfl (Nat.le_of_ble_eq_true rfl) rfl (mwG0 _ _) dX9_rightOf_28 ?_
    refine g_lload_n E 3 dX9_rightOf_31 rfl rfl ?_
    refine g_aload_n E 0 dX9_rightOf_32 rfl rfl ?_
    refine g_iload E 5 dX9_rightOf_33 rfl ?_
    refine g_iload_n E 2 dX9_rightOf_35 rfl rfl ?_
    obtain ⟨q4, hq5, hf⟩ := gb hf
    refine g_callV (C := RX9) (T := TX9) (N := 20) (ci := 9) (As := [.int x7, .int x2]) (rest := [.long x3, .long q2.1]) (n := 2) E 0 (fX9_allOf_c k q2.2 x7 x2 q4 hq5) gX9_rightOf_X9_allOf rfl rfl rfl (by decide +kernel) ⟨Nat.le_of_ble_eq_true rfl, Nat.le_of_ble_eq_true rfl⟩ rfl rfl (Nat.le_of_ble_eq_true rfl) rfl (mwG0 _ _) dX9_rightOf_36 ?_
    obtain ⟨hn6, hf⟩ := gd hf
    refine g_ldiv E hn6 dX9_rightOf_39 ?_
    refine g_lmul E dX9_rightOf_40 ?_
    refine g_lstore E [(8, .long (q2.1 * (x3 / q4.1))), (0, .ref (k.2.2.2.1 0)), (1, .int x1), (2, .int x2), (3, .long x3), (5, .long x5), (7, .int x7)] dX9_rightOf_41 (by decide) rfl ?_
    refine g_lload E 5 dX9_rightOf_43 rfl ?_
    refine g_aload_n E 1 dX9_rightOf_45 rfl rfl ?_
    refine g_get (C := RX9) (T := TX9) (N := 20) (ci := 9) E 0 5 (.ref (k.2.2.2.1 5)) hi_X9_rightOf_X9 (mwG0 _ _) rfl (by decide) hk_X9_rightOf_22 rfl dX9_rightOf_46 ?_
    refine g_iload E 6 dX9_rightOf_49 rfl ?_
    obtain ⟨hi7, hf⟩ := gd hf
    refine g_iald E 5 (q4.2.1 5) (mwG5 _ _) hi7 dX9_rightOf_51 ?_
    refine g_iload_n E 2 dX9_rightOf_52 rfl rfl ?_
    refine g_icmp_lt (tgt := 61) E dX9_rightOf_53 (by decide) (fun c8 => ?_) (fun c8 => ?_)
    · have hf := gp hf c8
      refine g_lload_n E 4 dX9_rightOf_61 rfl rfl ?_
      refine g_lload E 0 dX9_rightOf_62 rfl ?_
      refine g_lsub E dX9_rightOf_64 ?_
      exact g_sub [1, 2, 3, 4, 6] rfl (fX9_rightOf_w65 E rc15 hrc15 q4.2 x1 x2 x3 x7 x5 (x3 - ((q2.1 * (x3 / q4.1)))) r hf)
    · have hf := gn hf c8
      refine g_lload E 0 dX9_rightOf_56 rfl ?_
      refine g_goto (tgt := 65) E dX9_rightOf_58 (by decide) ?_
      exact g_sub [1, 2, 3, 4, 6] rfl (fX9_rightOf_w65 E rc15 hrc15 q4.2 x1 x2 x3 x7 x5 (q2.1 * (x3 / q4.1)) r hf)
theorem fX9_rightOf_v15 {k : gK} {X : gX} (E : gE k X cX9_rightOf RX9 wsX9_rightOf 10 (some .long) rm_fX9_rightOf) : ∀ (n : Nat) (σ : St) (x1 : Int32) (x2 : Int32) (x3 : Int64) (x5 : Int64) (x7 : Int32) (r : Int64 × St), fX9_rightOf_l15 n σ x1 x2 x3 x5 x7 = some r → G k X 10 (some (.long r.1)) (mw k.2.2.2 r.2) (mw k.2.2.2 σ) [(0, .ref (k.2.2.2.1 0)), (1, .int x1), (2, .int x2), (3, .long x3), (5, .long x5), (7, .int x7)] [] 15 := by
  intro n
  induction n with
  | zero => intro σ x1 x2 x3 x5 x7 r hf; cases hf
  | succ n ih => intro σ x1 x2 x3 x5 x7 r hf; exact fX9_rightOf_w15 E (fX9_rightOf_l15 n) ih σ x1 x2 x3 x5 x7 r hf
set_option maxHeartbeats 4000000 in
set_option maxRecDepth 100000 in
theorem fX9_rightOf_c (k : gK) (σ : St) (x1 : Int32) (x2 : Int32) (r : Int64 × St) (hf : fX9_rightOf σ x1 x2 = some r) : MC k yX9_rightOf wsX9_rightOf rm_fX9_rightOf [.ref (k.2.2.2.1 0), .int x1, .int x2] (mw k.2.2.2 σ) (some (.long r.1)) (mw k.2.2.2 r.2) := by
  refine MC_of (cc := cX9_rightOf) (maxL := 10) (ret := (some .long)) (own := RX9) (lvs := [(0, .ref (k.2.2.2.1 0)), (1, .int x1), (2, .int x2)]) (by decide) rfl rfl (Nat.le_of_ble_eq_true rfl) rfl (fun X E => ?_)
  unfold fX9_rightOf at hf
  refine g_ldc2 (v := (4 : Int64)) E (by decide +kernel) dX9_rightOf_0 ?_
  refine g_bipush (v := (7 : Int32)) E dX9_rightOf_3 (by decide) ?_
  obtain ⟨q1, hq2, hf⟩ := gb hf
  refine g_callS (As := [.long (4 : Int64), .int (7 : Int32)]) (rest := []) (n := 2) E (fX9_power_c k σ (4 : Int64) (7 : Int32) q1 hq2) gX9_rightOf_X9_power rfl rfl rfl (by decide +kernel) ⟨Nat.le_of_ble_eq_true rfl, Nat.le_of_ble_eq_true rfl⟩ rfl rfl (Nat.le_of_ble_eq_true rfl) dX9_rightOf_5 ?_
  refine g_lstore_n E [(3, .long q1.1), (0, .ref (k.2.2.2.1 0)), (1, .int x1), (2, .int x2)] dX9_rightOf_8 rfl (by decide) rfl ?_
  refine g_lconst (v := (0 : Int64)) E dX9_rightOf_9 (by decide) ?_
  refine g_lstore E [(5, .long (0 : Int64)), (3, .long q1.1), (0, .ref (k.2.2.2.1 0)), (1, .int x1), (2, .int x2)] dX9_rightOf_10 (by decide) rfl ?_
  refine g_iconst (v := (0 : Int32)) E dX9_rightOf_12 (by decide) ?_
  refine g_istore E [(7, .int (0 : Int32)), (5, .long (0 : Int64)), (3, .long q1.1), (0, .ref (k.2.2.2.1 0)), (1, .int x1), (2, .int x2)] dX9_rightOf_13 (by decide) rfl ?_
  exact g_sub [3, 4, 5, 2, 1, 0] rfl (fX9_rightOf_v15 E gF q1.2 x1 x2 q1.1 (0 : Int64) (0 : Int32) r hf)
theorem hi_X9_right_X9 : ∀ w ∈ wsX90, w ∈ wsX9_right := by decide +kernel
theorem hk_X9_right_118 : Cond.fieldLink RX9 118 "PaperMarksModel" "clauses" "I" ∈ wsX9_right := by decide +kernel
def rm_fX9_right : Room := { frames := 4, cells := 0, slots := 0, locals := 111 }
set_option maxHeartbeats 4000000 in
set_option maxRecDepth 100000 in
theorem fX9_right_c (k : gK) (σ : St) (x1 : Int32) (x2 : Int32) (x3 : Int32) (r : Int64 × St) (hf : fX9_right σ x1 x2 x3 = some r) : MC k yX9_right wsX9_right rm_fX9_right [.ref (k.2.2.2.1 0), .int x1, .int x2, .int x3] (mw k.2.2.2 σ) (some (.long r.1)) (mw k.2.2.2 r.2) := by
  refine MC_of (cc := cX9_right) (maxL := 4) (ret := (some .long)) (own := RX9) (lvs := [(0, .ref (k.2.2.2.1 0)), (1, .int x1), (2, .int x2), (3, .int x3)]) (by decide) rfl rfl (Nat.le_of_ble_eq_true rfl) rfl (fun X E => ?_)
  unfold fX9_right at hf
  refine g_iload_n E 1 dX9_right_0 rfl rfl ?_
  refine g_i2l E dX9_right_1 ?_
  refine g_lconst (v := (1 : Int64)) E dX9_right_2 (by decide) ?_
  refine g_ldc2 (v := (5 : Int64)) E (by decide +kernel) dX9_right_3 ?_
  obtain ⟨q1, hq2, hf⟩ := gb hf
  refine g_callS (As := [.long x1.toInt64, .long (1 : Int64), .long (5 : Int64)]) (rest := []) (n := 3) E (fX9_in_c k σ x1.toInt64 (1 : Int64) (5 : Int64) q1 hq2) gX9_right_X9_in rfl rfl rfl (by decide +kernel) ⟨Nat.le_of_ble_eq_true rfl, Nat.le_of_ble_eq_true rfl⟩ rfl rfl (Nat.le_of_ble_eq_true rfl) dX9_right_6 ?_
  refine g_if_eq (tgt := 27) E dX9_right_9 (by decide) (fun c3 => ?_) (fun c3 => ?_)
  · have hf := gp hf c3
    refine g_ldc2 (v := (-1000000000000000002 : Int64)) E (by decide +kernel) dX9_right_27 ?_
    have hf := Option.some.inj hf
    subst hf
    exact g_lret E dX9_right_30
  · have hf := gn hf c3
    refine g_aload_n E 0 dX9_right_12 rfl rfl ?_
    refine g_iload_n E 2 dX9_right_13 rfl rfl ?_
    obtain ⟨q4, hq5, hf⟩ := gb hf
    refine g_callV (C := RX9) (T := TX9) (N := 20) (ci := 9) (As := [.int x2]) (rest := []) (n := 1) E 0 (fX9_isSet_c k q1.2 x2 q4 hq5) gX9_right_X9_isSet rfl rfl rfl (by decide +kernel) ⟨Nat.le_of_ble_eq_true rfl, Nat.le_of_ble_eq_true rfl⟩ rfl rfl (Nat.le_of_ble_eq_true rfl) rfl (mwG0 _ _) dX9_right_14 ?_
    refine g_if_eq (tgt := 27) E dX9_right_17 (by decide) (fun c6 => ?_) (fun c6 => ?_)
    · have hf := gp hf c6
      refine g_ldc2 (v := (-1000000000000000002 : Int64)) E (by decide +kernel) dX9_right_27 ?_
      have hf := Option.some.inj hf
      subst hf
      exact g_lret E dX9_right_30
    · have hf := gn hf c6
      refine g_iload_n E 3 dX9_right_20 rfl rfl ?_
      obtain ⟨q7, hq8, hf⟩ := gb hf
      refine g_callS (As := [.int x3]) (rest := []) (n := 1) E (fX9_isPart_c k q4.2 x3 q7 hq8) gX9_right_X9_isPart rfl rfl rfl (by decide +kernel) ⟨Nat.le_of_ble_eq_true rfl, Nat.le_of_ble_eq_true rfl⟩ rfl rfl (Nat.le_of_ble_eq_true rfl) dX9_right_21 ?_
      refine g_if_ne (tgt := 31) E dX9_right_24 (by decide) (fun c9 => ?_) (fun c9 => ?_)
      · have hf := gn hf c9
        refine g_aload_n E 0 dX9_right_31 rfl rfl ?_
        refine g_get (C := RX9) (T := TX9) (N := 20) (ci := 9) E 0 17 (.int (q7.2.2.1 3)) hi_X9_right_X9 (mwG0 _ _) rfl (by decide) hk_X9_right_118 rfl dX9_right_32 ?_
        refine g_if_ne (tgt := 44) E dX9_right_35 (by decide) (fun c10 => ?_) (fun c10 => ?_)
        · have hf := gn hf c10
          refine g_aload_n E 0 dX9_right_44 rfl rfl ?_
          refine g_iload_n E 1 dX9_right_45 rfl rfl ?_
          refine g_iload_n E 2 dX9_right_46 rfl rfl ?_
          obtain ⟨q11, hq12, hf⟩ := gb hf
          refine g_callV (C := RX9) (T := TX9) (N := 20) (ci := 9) (As := [.int x1, .int x2]) (rest := []) (n := 2) E 0 (fX9_rightOf_c k q7.2 x1 x2 q11 hq12) gX9_right_X9_rightOf rfl rfl rfl (by decide +kernel) ⟨Nat.le_of_ble_eq_true rfl, Nat.le_of_ble_eq_true rfl⟩ rfl rfl (Nat.le_of_ble_eq_true rfl) rfl (mwG0 _ _) dX9_right_47 ?_
          refine g_ldc2 (v := (4 : Int64)) E (by decide +kernel) dX9_right_50 ?_
          refine g_bipush (v := (7 : Int32)) E dX9_right_53 (by decide) ?_
          obtain ⟨q13, hq14, hf⟩ := gb hf
          refine g_callS (As := [.long (4 : Int64), .int (7 : Int32)]) (rest := [.long q11.1]) (n := 2) E (fX9_power_c k q11.2 (4 : Int64) (7 : Int32) q13 hq14) gX9_right_X9_power rfl rfl rfl (by decide +kernel) ⟨Nat.le_of_ble_eq_true rfl, Nat.le_of_ble_eq_true rfl⟩ rfl rfl (Nat.le_of_ble_eq_true rfl) dX9_right_55 ?_
          refine g_iload_n E 3 dX9_right_58 rfl rfl ?_
          obtain ⟨q15, hq16, hf⟩ := gb hf
          refine g_callS (As := [.long q11.1, .long q13.1, .int x3]) (rest := []) (n := 3) E (fX9_lowest_c k q13.2 q11.1 q13.1 x3 q15 hq16) gX9_right_X9_lowest rfl rfl rfl (by decide +kernel) ⟨Nat.le_of_ble_eq_true rfl, Nat.le_of_ble_eq_true rfl⟩ rfl rfl (Nat.le_of_ble_eq_true rfl) dX9_right_59 ?_
          have hf := Option.some.inj hf
          subst hf
          exact g_lret E dX9_right_62
        · have hf := gp hf c10
          refine g_ldc2 (v := (-1000000000000000003 : Int64)) E (by decide +kernel) dX9_right_38 ?_
          refine g_goto (tgt := 62) E dX9_right_41 (by decide) ?_
          have hf := Option.some.inj hf
          subst hf
          exact g_lret E dX9_right_62
      · have hf := gp hf c9
        refine g_ldc2 (v := (-1000000000000000002 : Int64)) E (by decide +kernel) dX9_right_27 ?_
        have hf := Option.some.inj hf
        subst hf
        exact g_lret E dX9_right_30
