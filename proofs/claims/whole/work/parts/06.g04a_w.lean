theorem hi_X8_harsh_X8 : ∀ w ∈ wsX80, w ∈ wsX8_harsh := by decide +kernel
theorem hi_X8_harsh_X4 : ∀ w ∈ wsX40, w ∈ wsX8_harsh := by decide +kernel
theorem hk_X8_harsh_19 : Cond.fieldLink RX8 19 "PaperMarks" "papers" "LPaperMarks$Papers;" ∈ wsX8_harsh := by decide +kernel
theorem hk_X8_harsh_192 : Cond.fieldLink RX8 192 "PaperMarks$Papers" "count" "I" ∈ wsX8_harsh := by decide +kernel
theorem hk_X8_harsh_26 : Cond.fieldLink RX8 26 "PaperMarks" "marks" "LPaperMarks$Marks;" ∈ wsX8_harsh := by decide +kernel
theorem hk_X8_harsh_10 : Cond.fieldLink RX8 10 "PaperMarks" "judges" "LPaperMarks$Judges;" ∈ wsX8_harsh := by decide +kernel
def rm_fX8_harsh : Room := { frames := 5, cells := 0, slots := 0, locals := 112 }
set_option maxHeartbeats 4000000 in
set_option maxRecDepth 100000 in
theorem fX8_harsh_w76 {k : gK} {X : gX} (E : gE k X cX8_harsh RX8 wsX8_harsh 7 (some .long) rm_fX8_harsh) (rc34 : St → Int32 → Int32 → Int64 → Int32 → Int32 → Option (Int64 × St)) (hrc34 : ∀ (σ : St) (x1 : Int32) (x2 : Int32) (x3 : Int64) (x5 : Int32) (x6 : Int32) (r : Int64 × St), rc34 σ x1 x2 x3 x5 x6 = some r → G k X 7 (some (.long r.1)) (cw k.2.2.2 r.2) (cw k.2.2.2 σ) [(0, .ref (k.2.2.2.1 0)), (1, .int x1), (2, .int x2), (3, .long x3), (5, .int x5), (6, .int x6)] [] 34) (σ : St) (x1 : Int32) (x2 : Int32) (x3 : Int64) (x5 : Int32) (x6 : Int32) (r : Int64 × St) (hf : fX8_harsh_b76 rc34 σ x1 x2 x3 x5 x6 = some r) : G k X 7 (some (.long r.1)) (cw k.2.2.2 r.2) (cw k.2.2.2 σ) [(0, .ref (k.2.2.2.1 0)), (1, .int x1), (2, .int x2), (3, .long x3), (5, .int x5), (6, .int x6)] [] 76 := by
  unfold fX8_harsh_b76 at hf
  refine g_iinc E 5 [(6, .int (x6 + (1 : Int32))), (0, .ref (k.2.2.2.1 0)), (1, .int x1), (2, .int x2), (3, .long x3), (5, .int x5)] (x6 + (1 : Int32)) dX8_harsh_76 rfl (by rfl) (by decide) rfl ?_
  refine g_goto (tgt := 34) E dX8_harsh_79 (by decide) ?_
  exact g_sub [1, 2, 3, 4, 5, 0] rfl (hrc34 σ x1 x2 x3 x5 (x6 + (1 : Int32)) r hf)
set_option maxHeartbeats 4000000 in
set_option maxRecDepth 100000 in
theorem fX8_harsh_w34 {k : gK} {X : gX} (E : gE k X cX8_harsh RX8 wsX8_harsh 7 (some .long) rm_fX8_harsh) (rc34 : St → Int32 → Int32 → Int64 → Int32 → Int32 → Option (Int64 × St)) (hrc34 : ∀ (σ : St) (x1 : Int32) (x2 : Int32) (x3 : Int64) (x5 : Int32) (x6 : Int32) (r : Int64 × St), rc34 σ x1 x2 x3 x5 x6 = some r → G k X 7 (some (.long r.1)) (cw k.2.2.2 r.2) (cw k.2.2.2 σ) [(0, .ref (k.2.2.2.1 0)), (1, .int x1), (2, .int x2), (3, .long x3), (5, .int x5), (6, .int x6)] [] 34) (σ : St) (x1 : Int32) (x2 : Int32) (x3 : Int64) (x5 : Int32) (x6 : Int32) (r : Int64 × St) (hf : fX8_harsh_b34 rc34 σ x1 x2 x3 x5 x6 = some r) : G k X 7 (some (.long r.1)) (cw k.2.2.2 r.2) (cw k.2.2.2 σ) [(0, .ref (k.2.2.2.1 0)), (1, .int x1), (2, .int x2), (3, .long x3), (5, .int x5), (6, .int x6)] [] 34 := by
  unfold fX8_harsh_b34 at hf
  refine g_iload E 5 dX8_harsh_34 rfl ?_
  refine g_aload_n E 0 dX8_harsh_36 rfl rfl ?_
  refine g_get (C := RX8) (T := TX8) (N := 7) (ci := 8) E 0 1 (.ref (k.2.2.2.1 2)) hi_X8_harsh_X8 (cwG0 _ _) rfl (by decide) hk_X8_harsh_19 rfl dX8_harsh_37 ?_
  refine g_get (C := RX4) (T := TX4) (N := 6) (ci := 4) E 2 5 (.int (σ.2.1 1)) hi_X8_harsh_X4 (cwG2 _ _) rfl (by decide) hk_X8_harsh_192 rfl dX8_harsh_40 ?_
  refine g_icmp_ge (tgt := 82) E dX8_harsh_43 (by decide) (fun c1 => ?_) (fun c1 => ?_)
  · have hf := gp hf c1
    refine g_lload_n E 3 dX8_harsh_82 rfl rfl ?_
    refine g_iload E 4 dX8_harsh_83 rfl ?_
    refine g_i2l E dX8_harsh_85 ?_
    refine g_ldc2 (v := (60 : Int64)) E (by decide +kernel) dX8_harsh_86 ?_
    refine g_lmul E dX8_harsh_89 ?_
    refine g_iload_n E 2 dX8_harsh_90 rfl rfl ?_
    obtain ⟨q2, hq3, hf⟩ := gb hf
    refine g_callS (As := [.long x3, .long (x5.toInt64 * (60 : Int64)), .int x2]) (rest := []) (n := 3) E (fX8_tell_c k σ x3 ((x5.toInt64 * (60 : Int64))) x2 q2 hq3) gX8_harsh_X8_tell rfl rfl rfl (by decide +kernel) ⟨Nat.le_of_ble_eq_true rfl, Nat.le_of_ble_eq_true rfl⟩ rfl rfl (Nat.le_of_ble_eq_true rfl) dX8_harsh_91 ?_
    have hf := Option.some.inj hf
    subst hf
    exact g_lret E dX8_harsh_94
  · have hf := gn hf c1
    refine g_aload_n E 0 dX8_harsh_46 rfl rfl ?_
    refine g_get (C := RX8) (T := TX8) (N := 7) (ci := 8) E 0 2 (.ref (k.2.2.2.1 3)) hi_X8_harsh_X8 (cwG0 _ _) rfl (by decide) hk_X8_harsh_26 rfl dX8_harsh_47 ?_
    refine g_iload_n E 1 dX8_harsh_50 rfl rfl ?_
    refine g_iload E 5 dX8_harsh_51 rfl ?_
    obtain ⟨q4, hq5, hf⟩ := gb hf
    refine g_callV (C := RX1) (T := TX1) (N := 2) (ci := 1) (As := [.int x1, .int x6]) (rest := []) (n := 2) E 3 (fX1_comparable_c k σ x1 x6 q4 hq5) gX8_harsh_X1_comparable rfl rfl rfl (by decide +kernel) ⟨Nat.le_of_ble_eq_true rfl, Nat.le_of_ble_eq_true rfl⟩ rfl rfl (Nat.le_of_ble_eq_true rfl) rfl (cwG3 _ _) dX8_harsh_53 ?_
    refine g_if_eq (tgt := 76) E dX8_harsh_56 (by decide) (fun c6 => ?_) (fun c6 => ?_)
    · have hf := gp hf c6
      exact fX8_harsh_w76 E rc34 hrc34 q4.2 x1 x2 x3 x5 x6 r hf
    · have hf := gn hf c6
      refine g_lload_n E 3 dX8_harsh_59 rfl rfl ?_
      refine g_aload_n E 0 dX8_harsh_60 rfl rfl ?_
      refine g_get (C := RX8) (T := TX8) (N := 7) (ci := 8) E 0 2 (.ref (k.2.2.2.1 3)) hi_X8_harsh_X8 (cwG0 _ _) rfl (by decide) hk_X8_harsh_26 rfl dX8_harsh_61 ?_
      refine g_iload_n E 1 dX8_harsh_64 rfl rfl ?_
      refine g_iload E 5 dX8_harsh_65 rfl ?_
      obtain ⟨q7, hq8, hf⟩ := gb hf
      refine g_callV (C := RX1) (T := TX1) (N := 2) (ci := 1) (As := [.int x1, .int x6]) (rest := [.long x3]) (n := 2) E 3 (fX1_aboveOthers_c k q4.2 x1 x6 q7 hq8) gX8_harsh_X1_aboveOthers rfl rfl rfl (by decide +kernel) ⟨Nat.le_of_ble_eq_true rfl, Nat.le_of_ble_eq_true rfl⟩ rfl rfl (Nat.le_of_ble_eq_true rfl) rfl (cwG3 _ _) dX8_harsh_67 ?_
      refine g_i2l E dX8_harsh_70 ?_
      refine g_ladd E dX8_harsh_71 ?_
      refine g_lstore_n E [(3, .long (x3 + q7.1.toInt64)), (0, .ref (k.2.2.2.1 0)), (1, .int x1), (2, .int x2), (5, .int x5), (6, .int x6)] dX8_harsh_72 rfl (by decide) rfl ?_
      refine g_iinc E 4 [(5, .int (x5 + (1 : Int32))), (3, .long (x3 + q7.1.toInt64)), (0, .ref (k.2.2.2.1 0)), (1, .int x1), (2, .int x2), (6, .int x6)] (x5 + (1 : Int32)) dX8_harsh_73 rfl (by rfl) (by decide) rfl ?_
      exact g_sub [2, 3, 4, 1, 0, 5] rfl (fX8_harsh_w76 E rc34 hrc34 q7.2 x1 x2 (x3 + q7.1.toInt64) (x5 + (1 : Int32)) x6 r hf)
theorem fX8_harsh_v34 {k : gK} {X : gX} (E : gE k X cX8_harsh RX8 wsX8_harsh 7 (some .long) rm_fX8_harsh) : ∀ (n : Nat) (σ : St) (x1 : Int32) (x2 : Int32) (x3 : Int64) (x5 : Int32) (x6 : Int32) (r : Int64 × St), fX8_harsh_l34 n σ x1 x2 x3 x5 x6 = some r → G k X 7 (some (.long r.1)) (cw k.2.2.2 r.2) (cw k.2.2.2 σ) [(0, .ref (k.2.2.2.1 0)), (1, .int x1), (2, .int x2), (3, .long x3), (5, .int x5), (6, .int x6)] [] 34 := by
  intro n
  induction n with
  | zero => intro σ x1 x2 x3 x5 x6 r hf; cases hf
  | succ n ih => intro σ x1 x2 x3 x5 x6 r hf; exact fX8_harsh_w34 E (fX8_harsh_l34 n) ih σ x1 x2 x3 x5 x6 r hf
set_option maxHeartbeats 4000000 in
set_option maxRecDepth 100000 in
theorem fX8_harsh_c (k : gK) (σ : St) (x1 : Int32) (x2 : Int32) (r : Int64 × St) (hf : fX8_harsh σ x1 x2 = some r) : MC k yX8_harsh wsX8_harsh rm_fX8_harsh [.ref (k.2.2.2.1 0), .int x1, .int x2] (cw k.2.2.2 σ) (some (.long r.1)) (cw k.2.2.2 r.2) := by
  refine MC_of (cc := cX8_harsh) (maxL := 7) (ret := (some .long)) (own := RX8) (lvs := [(0, .ref (k.2.2.2.1 0)), (1, .int x1), (2, .int x2)]) (by decide) rfl rfl (Nat.le_of_ble_eq_true rfl) rfl (fun X E => ?_)
  unfold fX8_harsh at hf
  refine g_aload_n E 0 dX8_harsh_0 rfl rfl ?_
  refine g_get (C := RX8) (T := TX8) (N := 7) (ci := 8) E 0 0 (.ref (k.2.2.2.1 1)) hi_X8_harsh_X8 (cwG0 _ _) rfl (by decide) hk_X8_harsh_10 rfl dX8_harsh_1 ?_
  refine g_iload_n E 1 dX8_harsh_4 rfl rfl ?_
  obtain ⟨q1, hq2, hf⟩ := gb hf
  refine g_callV (C := RX0) (T := TX0) (N := 5) (ci := 0) (As := [.int x1]) (rest := []) (n := 1) E 1 (fX0_has_c k σ x1 q1 hq2) gX8_harsh_X0_has rfl rfl rfl (by decide +kernel) ⟨Nat.le_of_ble_eq_true rfl, Nat.le_of_ble_eq_true rfl⟩ rfl rfl (Nat.le_of_ble_eq_true rfl) rfl (cwG1 _ _) dX8_harsh_5 ?_
  refine g_if_ne (tgt := 15) E dX8_harsh_8 (by decide) (fun c3 => ?_) (fun c3 => ?_)
  · have hf := gn hf c3
    refine g_iload_n E 2 dX8_harsh_15 rfl rfl ?_
    obtain ⟨q4, hq5, hf⟩ := gb hf
    refine g_callS (As := [.int x2]) (rest := []) (n := 1) E (fX8_isPart_c k q1.2 x2 q4 hq5) gX8_harsh_X8_isPart rfl rfl rfl (by decide +kernel) ⟨Nat.le_of_ble_eq_true rfl, Nat.le_of_ble_eq_true rfl⟩ rfl rfl (Nat.le_of_ble_eq_true rfl) dX8_harsh_16 ?_
    refine g_if_ne (tgt := 26) E dX8_harsh_19 (by decide) (fun c6 => ?_) (fun c6 => ?_)
    · have hf := gn hf c6
      refine g_lconst (v := (0 : Int64)) E dX8_harsh_26 (by decide) ?_
      refine g_lstore_n E [(3, .long (0 : Int64)), (0, .ref (k.2.2.2.1 0)), (1, .int x1), (2, .int x2)] dX8_harsh_27 rfl (by decide) rfl ?_
      refine g_iconst (v := (0 : Int32)) E dX8_harsh_28 (by decide) ?_
      refine g_istore E [(5, .int (0 : Int32)), (3, .long (0 : Int64)), (0, .ref (k.2.2.2.1 0)), (1, .int x1), (2, .int x2)] dX8_harsh_29 (by decide) rfl ?_
      refine g_iconst (v := (0 : Int32)) E dX8_harsh_31 (by decide) ?_
      refine g_istore E [(6, .int (0 : Int32)), (5, .int (0 : Int32)), (3, .long (0 : Int64)), (0, .ref (k.2.2.2.1 0)), (1, .int x1), (2, .int x2)] dX8_harsh_32 (by decide) rfl ?_
      exact g_sub [3, 4, 5, 2, 1, 0] rfl (fX8_harsh_v34 E gF q4.2 x1 x2 (0 : Int64) (0 : Int32) (0 : Int32) r hf)
    · have hf := gp hf c6
      refine g_ldc2 (v := (-1000000000000000002 : Int64)) E (by decide +kernel) dX8_harsh_22 ?_
      have hf := Option.some.inj hf
      subst hf
      exact g_lret E dX8_harsh_25
  · have hf := gp hf c3
    refine g_ldc2 (v := (-1000000000000000001 : Int64)) E (by decide +kernel) dX8_harsh_11 ?_
    have hf := Option.some.inj hf
    subst hf
    exact g_lret E dX8_harsh_14
theorem hi_X8_favours_X8 : ∀ w ∈ wsX80, w ∈ wsX8_favours := by decide +kernel
theorem hi_X8_favours_X4 : ∀ w ∈ wsX40, w ∈ wsX8_favours := by decide +kernel
theorem hk_X8_favours_19 : Cond.fieldLink RX8 19 "PaperMarks" "papers" "LPaperMarks$Papers;" ∈ wsX8_favours := by decide +kernel
theorem hk_X8_favours_192 : Cond.fieldLink RX8 192 "PaperMarks$Papers" "count" "I" ∈ wsX8_favours := by decide +kernel
theorem hk_X8_favours_83 : Cond.fieldLink RX8 83 "PaperMarks$Papers" "writers" "[I" ∈ wsX8_favours := by decide +kernel
theorem hk_X8_favours_26 : Cond.fieldLink RX8 26 "PaperMarks" "marks" "LPaperMarks$Marks;" ∈ wsX8_favours := by decide +kernel
def rm_fX8_favours : Room := { frames := 1, cells := 0, slots := 0, locals := 22 }
set_option maxHeartbeats 4000000 in
set_option maxRecDepth 100000 in
theorem fX8_favours_w41 {k : gK} {X : gX} (E : gE k X cX8_favours RX8 wsX8_favours 4 (some .boolean) rm_fX8_favours) (rc2 : St → Int32 → Int32 → Int32 → Option (Int32 × St)) (hrc2 : ∀ (σ : St) (x1 : Int32) (x2 : Int32) (x3 : Int32) (r : Int32 × St), rc2 σ x1 x2 x3 = some r → G k X 4 (some (.int r.1)) (cw k.2.2.2 r.2) (cw k.2.2.2 σ) [(0, .ref (k.2.2.2.1 0)), (1, .int x1), (2, .int x2), (3, .int x3)] [] 2) (σ : St) (x1 : Int32) (x2 : Int32) (x3 : Int32) (r : Int32 × St) (hf : fX8_favours_b41 rc2 σ x1 x2 x3 = some r) : G k X 4 (some (.int r.1)) (cw k.2.2.2 r.2) (cw k.2.2.2 σ) [(0, .ref (k.2.2.2.1 0)), (1, .int x1), (2, .int x2), (3, .int x3)] [] 41 := by
  unfold fX8_favours_b41 at hf
  refine g_iinc E 3 [(3, .int (x3 + (1 : Int32))), (0, .ref (k.2.2.2.1 0)), (1, .int x1), (2, .int x2)] (x3 + (1 : Int32)) dX8_favours_41 rfl (by rfl) (by decide) rfl ?_
  refine g_goto (tgt := 2) E dX8_favours_44 (by decide) ?_
  exact g_sub [1, 2, 3, 0] rfl (hrc2 σ x1 x2 (x3 + (1 : Int32)) r hf)
set_option maxHeartbeats 4000000 in
set_option maxRecDepth 100000 in
theorem fX8_favours_w2 {k : gK} {X : gX} (E : gE k X cX8_favours RX8 wsX8_favours 4 (some .boolean) rm_fX8_favours) (rc2 : St → Int32 → Int32 → Int32 → Option (Int32 × St)) (hrc2 : ∀ (σ : St) (x1 : Int32) (x2 : Int32) (x3 : Int32) (r : Int32 × St), rc2 σ x1 x2 x3 = some r → G k X 4 (some (.int r.1)) (cw k.2.2.2 r.2) (cw k.2.2.2 σ) [(0, .ref (k.2.2.2.1 0)), (1, .int x1), (2, .int x2), (3, .int x3)] [] 2) (σ : St) (x1 : Int32) (x2 : Int32) (x3 : Int32) (r : Int32 × St) (hf : fX8_favours_b2 rc2 σ x1 x2 x3 = some r) : G k X 4 (some (.int r.1)) (cw k.2.2.2 r.2) (cw k.2.2.2 σ) [(0, .ref (k.2.2.2.1 0)), (1, .int x1), (2, .int x2), (3, .int x3)] [] 2 := by
  unfold fX8_favours_b2 at hf
  refine g_iload_n E 3 dX8_favours_2 rfl rfl ?_
  refine g_aload_n E 0 dX8_favours_3 rfl rfl ?_
  refine g_get (C := RX8) (T := TX8) (N := 7) (ci := 8) E 0 1 (.ref (k.2.2.2.1 2)) hi_X8_favours_X8 (cwG0 _ _) rfl (by decide) hk_X8_favours_19 rfl dX8_favours_4 ?_
  refine g_get (C := RX4) (T := TX4) (N := 6) (ci := 4) E 2 5 (.int (σ.2.1 1)) hi_X8_favours_X4 (cwG2 _ _) rfl (by decide) hk_X8_favours_192 rfl dX8_favours_7 ?_
  refine g_icmp_ge (tgt := 47) E dX8_favours_10 (by decide) (fun c1 => ?_) (fun c1 => ?_)
  · have hf := gp hf c1
    refine g_iconst (v := (0 : Int32)) E dX8_favours_47 (by decide) ?_
    have hf := Option.some.inj hf
    subst hf
    exact g_zret E (Or.inl rfl) dX8_favours_48
  · have hf := gn hf c1
    refine g_aload_n E 0 dX8_favours_13 rfl rfl ?_
    refine g_get (C := RX8) (T := TX8) (N := 7) (ci := 8) E 0 1 (.ref (k.2.2.2.1 2)) hi_X8_favours_X8 (cwG0 _ _) rfl (by decide) hk_X8_favours_19 rfl dX8_favours_14 ?_
    refine g_get (C := RX4) (T := TX4) (N := 6) (ci := 4) E 2 1 (.ref (k.2.2.2.1 15)) hi_X8_favours_X4 (cwG2 _ _) rfl (by decide) hk_X8_favours_83 rfl dX8_favours_17 ?_
    refine g_iload_n E 3 dX8_favours_20 rfl rfl ?_
    obtain ⟨hi2, hf⟩ := gd hf
    refine g_iald E 15 (σ.1 15) (cwG15 _ _) hi2 dX8_favours_21 ?_
    refine g_iload_n E 2 dX8_favours_22 rfl rfl ?_
    refine g_icmp_ne (tgt := 41) E dX8_favours_23 (by decide) (fun c3 => ?_) (fun c3 => ?_)
    · have hf := gn hf c3
      exact fX8_favours_w41 E rc2 hrc2 σ x1 x2 x3 r hf
    · have hf := gp hf c3
      refine g_aload_n E 0 dX8_favours_26 rfl rfl ?_
      refine g_get (C := RX8) (T := TX8) (N := 7) (ci := 8) E 0 2 (.ref (k.2.2.2.1 3)) hi_X8_favours_X8 (cwG0 _ _) rfl (by decide) hk_X8_favours_26 rfl dX8_favours_27 ?_
      refine g_iload_n E 1 dX8_favours_30 rfl rfl ?_
      refine g_iload_n E 3 dX8_favours_31 rfl rfl ?_
      obtain ⟨q4, hq5, hf⟩ := gb hf
      refine g_callV (C := RX1) (T := TX1) (N := 2) (ci := 1) (As := [.int x1, .int x3]) (rest := []) (n := 2) E 3 (fX1_of_c k σ x1 x3 q4 hq5) gX8_favours_X1_of rfl rfl rfl (by decide +kernel) ⟨Nat.le_of_ble_eq_true rfl, Nat.le_of_ble_eq_true rfl⟩ rfl rfl (Nat.le_of_ble_eq_true rfl) rfl (cwG3 _ _) dX8_favours_32 ?_
      refine g_iconst (v := (4 : Int32)) E dX8_favours_35 (by decide) ?_
      refine g_icmp_lt (tgt := 41) E dX8_favours_36 (by decide) (fun c6 => ?_) (fun c6 => ?_)
      · have hf := gp hf c6
        exact fX8_favours_w41 E rc2 hrc2 q4.2 x1 x2 x3 r hf
      · have hf := gn hf c6
        refine g_iconst (v := (1 : Int32)) E dX8_favours_39 (by decide) ?_
        have hf := Option.some.inj hf
        subst hf
        exact g_zret E (Or.inr rfl) dX8_favours_40
theorem fX8_favours_v2 {k : gK} {X : gX} (E : gE k X cX8_favours RX8 wsX8_favours 4 (some .boolean) rm_fX8_favours) : ∀ (n : Nat) (σ : St) (x1 : Int32) (x2 : Int32) (x3 : Int32) (r : Int32 × St), fX8_favours_l2 n σ x1 x2 x3 = some r → G k X 4 (some (.int r.1)) (cw k.2.2.2 r.2) (cw k.2.2.2 σ) [(0, .ref (k.2.2.2.1 0)), (1, .int x1), (2, .int x2), (3, .int x3)] [] 2 := by
  intro n
  induction n with
  | zero => intro σ x1 x2 x3 r hf; cases hf
  | succ n ih => intro σ x1 x2 x3 r hf; exact fX8_favours_w2 E (fX8_favours_l2 n) ih σ x1 x2 x3 r hf
set_option maxHeartbeats 4000000 in
set_option maxRecDepth 100000 in
theorem fX8_favours_c (k : gK) (σ : St) (x1 : Int32) (x2 : Int32) (r : Int32 × St) (hf : fX8_favours σ x1 x2 = some r) : MC k yX8_favours wsX8_favours rm_fX8_favours [.ref (k.2.2.2.1 0), .int x1, .int x2] (cw k.2.2.2 σ) (some (.int r.1)) (cw k.2.2.2 r.2) := by
  refine MC_of (cc := cX8_favours) (maxL := 4) (ret := (some .boolean)) (own := RX8) (lvs := [(0, .ref (k.2.2.2.1 0)), (1, .int x1), (2, .int x2)]) (by decide) rfl rfl (Nat.le_of_ble_eq_true rfl) rfl (fun X E => ?_)
  unfold fX8_favours at hf
  refine g_iconst (v := (0 : Int32)) E dX8_favours_0 (by decide) ?_
  refine g_istore_n E [(3, .int (0 : Int32)), (0, .ref (k.2.2.2.1 0)), (1, .int x1), (2, .int x2)] dX8_favours_1 rfl (by decide) rfl ?_
  exact g_sub [1, 2, 3, 0] rfl (fX8_favours_v2 E gF σ x1 x2 (0 : Int32) r hf)
