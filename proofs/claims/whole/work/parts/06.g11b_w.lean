theorem hi_X9_match_X9 : ∀ w ∈ wsX90, w ∈ wsX9_match := by decide +kernel
theorem hk_X9_match_56 : Cond.fieldLink RX9 56 "PaperMarksModel" "mostFrom" "[I" ∈ wsX9_match := by decide +kernel
def rm_fX9_match : Room := { frames := 4, cells := 0, slots := 0, locals := 101 }
set_option maxHeartbeats 4000000 in
set_option maxRecDepth 100000 in
theorem fX9_match_w90 {k : gK} {X : gX} (E : gE k X cX9_match RX9 wsX9_match 7 (some .int) rm_fX9_match) (rc81 : St → Int32 → Int32 → Int32 → Int32 → Int32 → Int32 → Option (Int32 × St)) (hrc81 : ∀ (σ : St) (x1 : Int32) (x2 : Int32) (x3 : Int32) (x4 : Int32) (x5 : Int32) (x6 : Int32) (r : Int32 × St), rc81 σ x1 x2 x3 x4 x5 x6 = some r → G k X 7 (some (.int r.1)) (mw k.2.2.2 r.2) (mw k.2.2.2 σ) [(0, .ref (k.2.2.2.1 0)), (1, .int x1), (2, .int x2), (3, .int x3), (4, .int x4), (5, .int x5), (6, .int x6)] [] 81) (rc90 : St → Int32 → Int32 → Int32 → Int32 → Int32 → Int32 → Option (Int32 × St)) (hrc90 : ∀ (σ : St) (x1 : Int32) (x2 : Int32) (x3 : Int32) (x4 : Int32) (x5 : Int32) (x6 : Int32) (r : Int32 × St), rc90 σ x1 x2 x3 x4 x5 x6 = some r → G k X 7 (some (.int r.1)) (mw k.2.2.2 r.2) (mw k.2.2.2 σ) [(0, .ref (k.2.2.2.1 0)), (1, .int x1), (2, .int x2), (3, .int x3), (4, .int x4), (5, .int x5), (6, .int x6)] [] 90) (σ : St) (x1 : Int32) (x2 : Int32) (x3 : Int32) (x4 : Int32) (x5 : Int32) (x6 : Int32) (r : Int32 × St) (hf : fX9_match_b90 rc81 rc90 σ x1 x2 x3 x4 x5 x6 = some r) : G k X 7 (some (.int r.1)) (mw k.2.2.2 r.2) (mw k.2.2.2 σ) [(0, .ref (k.2.2.2.1 0)), (1, .int x1), (2, .int x2), (3, .int x3), (4, .int x4), (5, .int x5), (6, .int x6)] [] 90 := by
  unfold fX9_match_b90 at hf
  refine g_aload_n E 0 dX9_match_90 rfl rfl ?_
  refine g_iload E 6 dX9_match_91 rfl ?_
  refine g_iload E 4 dX9_match_93 rfl ?_
  refine g_iload E 5 dX9_match_95 rfl ?_
  refine g_iload_n E 1 dX9_match_97 rfl rfl ?_
  refine g_iload_n E 2 dX9_match_98 rfl rfl ?_
  obtain ⟨q1, hq2, hf⟩ := gb hf
  refine g_callV (C := RX9) (T := TX9) (N := 20) (ci := 9) (As := [.int x6, .int x4, .int x5, .int x1, .int x2]) (rest := []) (n := 5) E 0 (fX9_bringsOf_c k σ x6 x4 x5 x1 x2 q1 hq2) gX9_match_X9_bringsOf rfl rfl rfl (by decide +kernel) ⟨Nat.le_of_ble_eq_true rfl, Nat.le_of_ble_eq_true rfl⟩ rfl rfl (Nat.le_of_ble_eq_true rfl) rfl (mwG0 _ _) dX9_match_99 ?_
  refine g_aload_n E 0 dX9_match_102 rfl rfl ?_
  refine g_get (C := RX9) (T := TX9) (N := 20) (ci := 9) E 0 19 (.ref (k.2.2.2.1 16)) hi_X9_match_X9 (mwG0 _ _) rfl (by decide) hk_X9_match_56 rfl dX9_match_103 ?_
  refine g_sipush (v := (15625 : Int32)) E dX9_match_106 (by decide) ?_
  refine g_iload E 6 dX9_match_109 rfl ?_
  refine g_imul E dX9_match_111 ?_
  refine g_iload E 4 dX9_match_112 rfl ?_
  refine g_iadd E dX9_match_114 ?_
  obtain ⟨hi3, hf⟩ := gd hf
  refine g_iald E 16 (q1.2.1 16) (mwG16 _ _) hi3 dX9_match_115 ?_
  refine g_icmp_eq (tgt := 125) E dX9_match_116 (by decide) (fun c4 => ?_) (fun c4 => ?_)
  · have hf := gp hf c4
    refine g_aload_n E 0 dX9_match_125 rfl rfl ?_
    refine g_iload E 4 dX9_match_126 rfl ?_
    refine g_iload E 5 dX9_match_128 rfl ?_
    refine g_iload_n E 2 dX9_match_130 rfl rfl ?_
    obtain ⟨q5, hq6, hf⟩ := gb hf
    refine g_callV (C := RX9) (T := TX9) (N := 20) (ci := 9) (As := [.int x4, .int x5, .int x2]) (rest := []) (n := 3) E 0 (fX9_loadsBy_c k q1.2 x4 x5 x2 q5 hq6) gX9_match_X9_loadsBy rfl rfl rfl (by decide +kernel) ⟨Nat.le_of_ble_eq_true rfl, Nat.le_of_ble_eq_true rfl⟩ rfl rfl (Nat.le_of_ble_eq_true rfl) rfl (mwG0 _ _) dX9_match_131 ?_
    refine g_istore E [(4, .int q5.1), (0, .ref (k.2.2.2.1 0)), (1, .int x1), (2, .int x2), (3, .int x3), (5, .int x5), (6, .int x6)] dX9_match_134 (by decide) rfl ?_
    refine g_iinc E 6 [(6, .int (x6 + (1 : Int32))), (4, .int q5.1), (0, .ref (k.2.2.2.1 0)), (1, .int x1), (2, .int x2), (3, .int x3), (5, .int x5)] (x6 + (1 : Int32)) dX9_match_136 rfl (by rfl) (by decide) rfl ?_
    refine g_goto (tgt := 81) E dX9_match_139 (by decide) ?_
    exact g_sub [2, 3, 4, 5, 1, 6, 0] rfl (hrc81 q5.2 x1 x2 x3 q5.1 x5 (x6 + (1 : Int32)) r hf)
  · have hf := gn hf c4
    refine g_iinc E 5 [(5, .int (x5 + (1 : Int32))), (0, .ref (k.2.2.2.1 0)), (1, .int x1), (2, .int x2), (3, .int x3), (4, .int x4), (6, .int x6)] (x5 + (1 : Int32)) dX9_match_119 rfl (by rfl) (by decide) rfl ?_
    refine g_goto (tgt := 90) E dX9_match_122 (by decide) ?_
    exact g_sub [1, 2, 3, 4, 5, 0, 6] rfl (hrc90 q1.2 x1 x2 x3 x4 (x5 + (1 : Int32)) x6 r hf)
theorem fX9_match_v90 {k : gK} {X : gX} (E : gE k X cX9_match RX9 wsX9_match 7 (some .int) rm_fX9_match) (rc81 : St → Int32 → Int32 → Int32 → Int32 → Int32 → Int32 → Option (Int32 × St)) (hrc81 : ∀ (σ : St) (x1 : Int32) (x2 : Int32) (x3 : Int32) (x4 : Int32) (x5 : Int32) (x6 : Int32) (r : Int32 × St), rc81 σ x1 x2 x3 x4 x5 x6 = some r → G k X 7 (some (.int r.1)) (mw k.2.2.2 r.2) (mw k.2.2.2 σ) [(0, .ref (k.2.2.2.1 0)), (1, .int x1), (2, .int x2), (3, .int x3), (4, .int x4), (5, .int x5), (6, .int x6)] [] 81) : ∀ (n : Nat) (σ : St) (x1 : Int32) (x2 : Int32) (x3 : Int32) (x4 : Int32) (x5 : Int32) (x6 : Int32) (r : Int32 × St), fX9_match_l90 rc81 n σ x1 x2 x3 x4 x5 x6 = some r → G k X 7 (some (.int r.1)) (mw k.2.2.2 r.2) (mw k.2.2.2 σ) [(0, .ref (k.2.2.2.1 0)), (1, .int x1), (2, .int x2), (3, .int x3), (4, .int x4), (5, .int x5), (6, .int x6)] [] 90 := by
  intro n
  induction n with
  | zero => intro σ x1 x2 x3 x4 x5 x6 r hf; cases hf
  | succ n ih => intro σ x1 x2 x3 x4 x5 x6 r hf; exact fX9_match_w90 E rc81 hrc81 (fX9_match_l90 rc81 n) ih σ x1 x2 x3 x4 x5 x6 r hf
set_option maxHeartbeats 4000000 in
set_option maxRecDepth 100000 in
theorem fX9_match_w81 {k : gK} {X : gX} (E : gE k X cX9_match RX9 wsX9_match 7 (some .int) rm_fX9_match) (rc81 : St → Int32 → Int32 → Int32 → Int32 → Int32 → Int32 → Option (Int32 × St)) (hrc81 : ∀ (σ : St) (x1 : Int32) (x2 : Int32) (x3 : Int32) (x4 : Int32) (x5 : Int32) (x6 : Int32) (r : Int32 × St), rc81 σ x1 x2 x3 x4 x5 x6 = some r → G k X 7 (some (.int r.1)) (mw k.2.2.2 r.2) (mw k.2.2.2 σ) [(0, .ref (k.2.2.2.1 0)), (1, .int x1), (2, .int x2), (3, .int x3), (4, .int x4), (5, .int x5), (6, .int x6)] [] 81) (σ : St) (x1 : Int32) (x2 : Int32) (x3 : Int32) (x4 : Int32) (x5 : Int32) (x6 : Int32) (r : Int32 × St) (hf : fX9_match_b81 rc81 σ x1 x2 x3 x4 x5 x6 = some r) : G k X 7 (some (.int r.1)) (mw k.2.2.2 r.2) (mw k.2.2.2 σ) [(0, .ref (k.2.2.2.1 0)), (1, .int x1), (2, .int x2), (3, .int x3), (4, .int x4), (5, .int x5), (6, .int x6)] [] 81 := by
  unfold fX9_match_b81 at hf
  refine g_iload E 6 dX9_match_81 rfl ?_
  refine g_iload_n E 3 dX9_match_83 rfl rfl ?_
  refine g_icmp_gt (tgt := 142) E dX9_match_84 (by decide) (fun c1 => ?_) (fun c1 => ?_)
  · have hf := gp hf c1
    refine g_iload E 5 dX9_match_142 rfl ?_
    have hf := Option.some.inj hf
    subst hf
    exact g_iret E dX9_match_144
  · have hf := gn hf c1
    refine g_iconst (v := (0 : Int32)) E dX9_match_87 (by decide) ?_
    refine g_istore E [(5, .int (0 : Int32)), (0, .ref (k.2.2.2.1 0)), (1, .int x1), (2, .int x2), (3, .int x3), (4, .int x4), (6, .int x6)] dX9_match_88 (by decide) rfl ?_
    exact g_sub [1, 2, 3, 4, 5, 0, 6] rfl (fX9_match_v90 E rc81 hrc81 gF σ x1 x2 x3 x4 (0 : Int32) x6 r hf)
theorem fX9_match_v81 {k : gK} {X : gX} (E : gE k X cX9_match RX9 wsX9_match 7 (some .int) rm_fX9_match) : ∀ (n : Nat) (σ : St) (x1 : Int32) (x2 : Int32) (x3 : Int32) (x4 : Int32) (x5 : Int32) (x6 : Int32) (r : Int32 × St), fX9_match_l81 n σ x1 x2 x3 x4 x5 x6 = some r → G k X 7 (some (.int r.1)) (mw k.2.2.2 r.2) (mw k.2.2.2 σ) [(0, .ref (k.2.2.2.1 0)), (1, .int x1), (2, .int x2), (3, .int x3), (4, .int x4), (5, .int x5), (6, .int x6)] [] 81 := by
  intro n
  induction n with
  | zero => intro σ x1 x2 x3 x4 x5 x6 r hf; cases hf
  | succ n ih => intro σ x1 x2 x3 x4 x5 x6 r hf; exact fX9_match_w81 E (fX9_match_l81 n) ih σ x1 x2 x3 x4 x5 x6 r hf
set_option maxHeartbeats 4000000 in
set_option maxRecDepth 100000 in
theorem fX9_match_w15 {k : gK} {X : gX} (E : gE k X cX9_match RX9 wsX9_match 7 (some .int) rm_fX9_match) (σ : St) (x1 : Int32) (x2 : Int32) (x3 : Int32) (r : Int32 × St) (hf : fX9_match_b15 σ x1 x2 x3 = some r) : G k X 7 (some (.int r.1)) (mw k.2.2.2 r.2) (mw k.2.2.2 σ) [(0, .ref (k.2.2.2.1 0)), (1, .int x1), (2, .int x2), (3, .int x3)] [] 15 := by
  unfold fX9_match_b15 at hf
  refine g_iload_n E 1 dX9_match_15 rfl rfl ?_
  refine g_i2l E dX9_match_16 ?_
  refine g_lconst (v := (1 : Int64)) E dX9_match_17 (by decide) ?_
  refine g_ldc2 (v := (3 : Int64)) E (by decide +kernel) dX9_match_18 ?_
  obtain ⟨q1, hq2, hf⟩ := gb hf
  refine g_callS (As := [.long x1.toInt64, .long (1 : Int64), .long (3 : Int64)]) (rest := []) (n := 3) E (fX9_in_c k σ x1.toInt64 (1 : Int64) (3 : Int64) q1 hq2) gX9_match_X9_in rfl rfl rfl (by decide +kernel) ⟨Nat.le_of_ble_eq_true rfl, Nat.le_of_ble_eq_true rfl⟩ rfl rfl (Nat.le_of_ble_eq_true rfl) dX9_match_21 ?_
  refine g_if_eq (tgt := 39) E dX9_match_24 (by decide) (fun c3 => ?_) (fun c3 => ?_)
  · have hf := gp hf c3
    refine g_bipush (v := (-2 : Int32)) E dX9_match_39 (by decide) ?_
    have hf := Option.some.inj hf
    subst hf
    exact g_iret E dX9_match_41
  · have hf := gn hf c3
    refine g_iload_n E 2 dX9_match_27 rfl rfl ?_
    refine g_i2l E dX9_match_28 ?_
    refine g_lconst (v := (1 : Int64)) E dX9_match_29 (by decide) ?_
    refine g_ldc2 (v := (4 : Int64)) E (by decide +kernel) dX9_match_30 ?_
    obtain ⟨q4, hq5, hf⟩ := gb hf
    refine g_callS (As := [.long x2.toInt64, .long (1 : Int64), .long (4 : Int64)]) (rest := []) (n := 3) E (fX9_in_c k q1.2 x2.toInt64 (1 : Int64) (4 : Int64) q4 hq5) gX9_match_X9_in rfl rfl rfl (by decide +kernel) ⟨Nat.le_of_ble_eq_true rfl, Nat.le_of_ble_eq_true rfl⟩ rfl rfl (Nat.le_of_ble_eq_true rfl) dX9_match_33 ?_
    refine g_if_ne (tgt := 42) E dX9_match_36 (by decide) (fun c6 => ?_) (fun c6 => ?_)
    · have hf := gn hf c6
      refine g_aload_n E 0 dX9_match_42 rfl rfl ?_
      refine g_iload_n E 1 dX9_match_43 rfl rfl ?_
      refine g_iload_n E 2 dX9_match_44 rfl rfl ?_
      obtain ⟨q7, hq8, hf⟩ := gb hf
      refine g_callV (C := RX9) (T := TX9) (N := 20) (ci := 9) (As := [.int x1, .int x2]) (rest := []) (n := 2) E 0 (fX9_findMost_c k q4.2 x1 x2 q7 hq8) gX9_match_X9_findMost rfl rfl rfl (by decide +kernel) ⟨Nat.le_of_ble_eq_true rfl, Nat.le_of_ble_eq_true rfl⟩ rfl rfl (Nat.le_of_ble_eq_true rfl) rfl (mwG0 _ _) dX9_match_45 ?_
      refine g_aload_n E 0 dX9_match_48 rfl rfl ?_
      refine g_get (C := RX9) (T := TX9) (N := 20) (ci := 9) E 0 19 (.ref (k.2.2.2.1 16)) hi_X9_match_X9 (mwG0 _ _) rfl (by decide) hk_X9_match_56 rfl dX9_match_49 ?_
      refine g_iconst (v := (0 : Int32)) E dX9_match_52 (by decide) ?_
      refine g_iald E 16 (q7.2.1 16) (mwG16 _ _) (by decide) dX9_match_53 ?_
      refine g_if_ge (tgt := 60) E dX9_match_54 (by decide) (fun c9 => ?_) (fun c9 => ?_)
      · have hf := gp hf c9
        refine g_iload_n E 3 dX9_match_60 rfl rfl ?_
        refine g_iconst (v := (-1 : Int32)) E dX9_match_61 (by decide) ?_
        refine g_icmp_ne (tgt := 72) E dX9_match_62 (by decide) (fun c10 => ?_) (fun c10 => ?_)
        · have hf := gn hf c10
          refine g_iconst (v := (0 : Int32)) E dX9_match_72 (by decide) ?_
          refine g_istore E [(4, .int (0 : Int32)), (0, .ref (k.2.2.2.1 0)), (1, .int x1), (2, .int x2), (3, .int x3)] dX9_match_73 (by decide) rfl ?_
          refine g_iconst (v := (0 : Int32)) E dX9_match_75 (by decide) ?_
          refine g_istore E [(5, .int (0 : Int32)), (4, .int (0 : Int32)), (0, .ref (k.2.2.2.1 0)), (1, .int x1), (2, .int x2), (3, .int x3)] dX9_match_76 (by decide) rfl ?_
          refine g_iconst (v := (0 : Int32)) E dX9_match_78 (by decide) ?_
          refine g_istore E [(6, .int (0 : Int32)), (5, .int (0 : Int32)), (4, .int (0 : Int32)), (0, .ref (k.2.2.2.1 0)), (1, .int x1), (2, .int x2), (3, .int x3)] dX9_match_79 (by decide) rfl ?_
          exact g_sub [3, 4, 5, 6, 2, 1, 0] rfl (fX9_match_v81 E gF q7.2 x1 x2 x3 (0 : Int32) (0 : Int32) (0 : Int32) r hf)
        · have hf := gp hf c10
          refine g_aload_n E 0 dX9_match_65 rfl rfl ?_
          refine g_get (C := RX9) (T := TX9) (N := 20) (ci := 9) E 0 19 (.ref (k.2.2.2.1 16)) hi_X9_match_X9 (mwG0 _ _) rfl (by decide) hk_X9_match_56 rfl dX9_match_66 ?_
          refine g_iconst (v := (0 : Int32)) E dX9_match_69 (by decide) ?_
          refine g_iald E 16 (q7.2.1 16) (mwG16 _ _) (by decide) dX9_match_70 ?_
          have hf := Option.some.inj hf
          subst hf
          exact g_iret E dX9_match_71
      · have hf := gn hf c9
        refine g_bipush (v := (-5 : Int32)) E dX9_match_57 (by decide) ?_
        have hf := Option.some.inj hf
        subst hf
        exact g_iret E dX9_match_59
    · have hf := gp hf c6
      refine g_bipush (v := (-2 : Int32)) E dX9_match_39 (by decide) ?_
      have hf := Option.some.inj hf
      subst hf
      exact g_iret E dX9_match_41
set_option maxHeartbeats 4000000 in
set_option maxRecDepth 100000 in
theorem fX9_match_c (k : gK) (σ : St) (x1 : Int32) (x2 : Int32) (x3 : Int32) (r : Int32 × St) (hf : fX9_match σ x1 x2 x3 = some r) : MC k yX9_match wsX9_match rm_fX9_match [.ref (k.2.2.2.1 0), .int x1, .int x2, .int x3] (mw k.2.2.2 σ) (some (.int r.1)) (mw k.2.2.2 r.2) := by
  refine MC_of (cc := cX9_match) (maxL := 7) (ret := (some .int)) (own := RX9) (lvs := [(0, .ref (k.2.2.2.1 0)), (1, .int x1), (2, .int x2), (3, .int x3)]) (by decide) rfl rfl (Nat.le_of_ble_eq_true rfl) rfl (fun X E => ?_)
  unfold fX9_match at hf
  refine g_iload_n E 3 dX9_match_0 rfl rfl ?_
  refine g_iconst (v := (-1 : Int32)) E dX9_match_1 (by decide) ?_
  refine g_icmp_eq (tgt := 15) E dX9_match_2 (by decide) (fun c1 => ?_) (fun c1 => ?_)
  · have hf := gp hf c1
    exact fX9_match_w15 E σ x1 x2 x3 r hf
  · have hf := gn hf c1
    refine g_aload_n E 0 dX9_match_5 rfl rfl ?_
    refine g_iload_n E 3 dX9_match_6 rfl rfl ?_
    obtain ⟨q2, hq3, hf⟩ := gb hf
    refine g_callV (C := RX9) (T := TX9) (N := 20) (ci := 9) (As := [.int x3]) (rest := []) (n := 1) E 0 (fX9_isPaper_c k σ x3 q2 hq3) gX9_match_X9_isPaper rfl rfl rfl (by decide +kernel) ⟨Nat.le_of_ble_eq_true rfl, Nat.le_of_ble_eq_true rfl⟩ rfl rfl (Nat.le_of_ble_eq_true rfl) rfl (mwG0 _ _) dX9_match_7 ?_
    refine g_if_ne (tgt := 15) E dX9_match_10 (by decide) (fun c4 => ?_) (fun c4 => ?_)
    · have hf := gn hf c4
      exact fX9_match_w15 E q2.2 x1 x2 x3 r hf
    · have hf := gp hf c4
      refine g_iconst (v := (-1 : Int32)) E dX9_match_13 (by decide) ?_
      have hf := Option.some.inj hf
      subst hf
      exact g_iret E dX9_match_14
