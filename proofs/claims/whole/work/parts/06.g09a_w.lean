theorem hi_X9_likeOf_X9 : ∀ w ∈ wsX90, w ∈ wsX9_likeOf := by decide +kernel
theorem hk_X9_likeOf_63 : Cond.fieldLink RX9 63 "PaperMarksModel" "judges" "I" ∈ wsX9_likeOf := by decide +kernel
theorem hk_X9_likeOf_34 : Cond.fieldLink RX9 34 "PaperMarksModel" "marks" "[I" ∈ wsX9_likeOf := by decide +kernel
def rm_fX9_likeOf : Room := { frames := 2, cells := 0, slots := 0, locals := 46 }
set_option maxHeartbeats 4000000 in
set_option maxRecDepth 100000 in
theorem fX9_likeOf_w90 {k : gK} {X : gX} (E : gE k X cX9_likeOf RX9 wsX9_likeOf 10 (some .long) rm_fX9_likeOf) (rc5 : St → Int32 → Int32 → Int64 → Int32 → Option (Int64 × St)) (hrc5 : ∀ (σ : St) (x1 : Int32) (x2 : Int32) (x3 : Int64) (x5 : Int32) (r : Int64 × St), rc5 σ x1 x2 x3 x5 = some r → G k X 10 (some (.long r.1)) (mw k.2.2.2 r.2) (mw k.2.2.2 σ) [(0, .ref (k.2.2.2.1 0)), (1, .int x1), (2, .int x2), (3, .long x3), (5, .int x5)] [] 5) (σ : St) (x1 : Int32) (x2 : Int32) (x5 : Int32) (t0 : Int64) (t1 : Int64) (r : Int64 × St) (hf : fX9_likeOf_b90 rc5 σ x1 x2 x5 t0 t1 = some r) : G k X 10 (some (.long r.1)) (mw k.2.2.2 r.2) (mw k.2.2.2 σ) [(0, .ref (k.2.2.2.1 0)), (1, .int x1), (2, .int x2), (5, .int x5)] [.long t1, .long t0] 90 := by
  unfold fX9_likeOf_b90 at hf
  refine g_lmul E dX9_likeOf_90 ?_
  refine g_lstore_n E [(3, .long (t0 * t1)), (0, .ref (k.2.2.2.1 0)), (1, .int x1), (2, .int x2), (5, .int x5)] dX9_likeOf_91 rfl (by decide) rfl ?_
  refine g_iinc E 4 [(5, .int (x5 + (1 : Int32))), (3, .long (t0 * t1)), (0, .ref (k.2.2.2.1 0)), (1, .int x1), (2, .int x2)] (x5 + (1 : Int32)) dX9_likeOf_92 rfl (by rfl) (by decide) rfl ?_
  refine g_goto (tgt := 5) E dX9_likeOf_95 (by decide) ?_
  exact g_sub [2, 3, 4, 1, 0] rfl (hrc5 σ x1 x2 (t0 * t1) (x5 + (1 : Int32)) r hf)
set_option maxHeartbeats 4000000 in
set_option maxRecDepth 100000 in
theorem fX9_likeOf_w69 {k : gK} {X : gX} (E : gE k X cX9_likeOf RX9 wsX9_likeOf 10 (some .long) rm_fX9_likeOf) (rc5 : St → Int32 → Int32 → Int64 → Int32 → Option (Int64 × St)) (hrc5 : ∀ (σ : St) (x1 : Int32) (x2 : Int32) (x3 : Int64) (x5 : Int32) (r : Int64 × St), rc5 σ x1 x2 x3 x5 = some r → G k X 10 (some (.long r.1)) (mw k.2.2.2 r.2) (mw k.2.2.2 σ) [(0, .ref (k.2.2.2.1 0)), (1, .int x1), (2, .int x2), (3, .long x3), (5, .int x5)] [] 5) (rc33 : St → Int32 → Int32 → Int64 → Int32 → Int32 → Int64 → Int32 → Option (Int64 × St)) (hrc33 : ∀ (σ : St) (x1 : Int32) (x2 : Int32) (x3 : Int64) (x5 : Int32) (x6 : Int32) (x7 : Int64) (x9 : Int32) (r : Int64 × St), rc33 σ x1 x2 x3 x5 x6 x7 x9 = some r → G k X 10 (some (.long r.1)) (mw k.2.2.2 r.2) (mw k.2.2.2 σ) [(0, .ref (k.2.2.2.1 0)), (1, .int x1), (2, .int x2), (3, .long x3), (5, .int x5), (6, .int x6), (7, .long x7), (9, .int x9)] [] 33) (σ : St) (x1 : Int32) (x2 : Int32) (x3 : Int64) (x5 : Int32) (x6 : Int32) (x9 : Int32) (t0 : Int64) (t1 : Int64) (r : Int64 × St) (hf : fX9_likeOf_b69 rc5 rc33 σ x1 x2 x3 x5 x6 x9 t0 t1 = some r) : G k X 10 (some (.long r.1)) (mw k.2.2.2 r.2) (mw k.2.2.2 σ) [(0, .ref (k.2.2.2.1 0)), (1, .int x1), (2, .int x2), (3, .long x3), (5, .int x5), (6, .int x6), (9, .int x9)] [.long t1, .long t0] 69 := by
  unfold fX9_likeOf_b69 at hf
  refine g_ladd E dX9_likeOf_69 ?_
  refine g_lstore E [(7, .long (t0 + t1)), (0, .ref (k.2.2.2.1 0)), (1, .int x1), (2, .int x2), (3, .long x3), (5, .int x5), (6, .int x6), (9, .int x9)] dX9_likeOf_70 (by decide) rfl ?_
  refine g_iinc E 7 [(9, .int (x9 + (1 : Int32))), (7, .long (t0 + t1)), (0, .ref (k.2.2.2.1 0)), (1, .int x1), (2, .int x2), (3, .long x3), (5, .int x5), (6, .int x6)] (x9 + (1 : Int32)) dX9_likeOf_72 rfl (by rfl) (by decide) rfl ?_
  refine g_goto (tgt := 33) E dX9_likeOf_75 (by decide) ?_
  exact g_sub [2, 3, 4, 5, 6, 7, 1, 0] rfl (hrc33 σ x1 x2 x3 x5 x6 (t0 + t1) (x9 + (1 : Int32)) r hf)
set_option maxHeartbeats 4000000 in
set_option maxRecDepth 100000 in
theorem fX9_likeOf_w33 {k : gK} {X : gX} (E : gE k X cX9_likeOf RX9 wsX9_likeOf 10 (some .long) rm_fX9_likeOf) (rc5 : St → Int32 → Int32 → Int64 → Int32 → Option (Int64 × St)) (hrc5 : ∀ (σ : St) (x1 : Int32) (x2 : Int32) (x3 : Int64) (x5 : Int32) (r : Int64 × St), rc5 σ x1 x2 x3 x5 = some r → G k X 10 (some (.long r.1)) (mw k.2.2.2 r.2) (mw k.2.2.2 σ) [(0, .ref (k.2.2.2.1 0)), (1, .int x1), (2, .int x2), (3, .long x3), (5, .int x5)] [] 5) (rc33 : St → Int32 → Int32 → Int64 → Int32 → Int32 → Int64 → Int32 → Option (Int64 × St)) (hrc33 : ∀ (σ : St) (x1 : Int32) (x2 : Int32) (x3 : Int64) (x5 : Int32) (x6 : Int32) (x7 : Int64) (x9 : Int32) (r : Int64 × St), rc33 σ x1 x2 x3 x5 x6 x7 x9 = some r → G k X 10 (some (.long r.1)) (mw k.2.2.2 r.2) (mw k.2.2.2 σ) [(0, .ref (k.2.2.2.1 0)), (1, .int x1), (2, .int x2), (3, .long x3), (5, .int x5), (6, .int x6), (7, .long x7), (9, .int x9)] [] 33) (σ : St) (x1 : Int32) (x2 : Int32) (x3 : Int64) (x5 : Int32) (x6 : Int32) (x7 : Int64) (x9 : Int32) (r : Int64 × St) (hf : fX9_likeOf_b33 rc5 rc33 σ x1 x2 x3 x5 x6 x7 x9 = some r) : G k X 10 (some (.long r.1)) (mw k.2.2.2 r.2) (mw k.2.2.2 σ) [(0, .ref (k.2.2.2.1 0)), (1, .int x1), (2, .int x2), (3, .long x3), (5, .int x5), (6, .int x6), (7, .long x7), (9, .int x9)] [] 33 := by
  unfold fX9_likeOf_b33 at hf
  refine g_iload E 7 dX9_likeOf_33 rfl ?_
  refine g_iconst (v := (3 : Int32)) E dX9_likeOf_35 (by decide) ?_
  refine g_icmp_ge (tgt := 78) E dX9_likeOf_36 (by decide) (fun c1 => ?_) (fun c1 => ?_)
  · have hf := gp hf c1
    refine g_lload_n E 3 dX9_likeOf_78 rfl rfl ?_
    refine g_iload E 5 dX9_likeOf_79 rfl ?_
    refine g_if_ge (tgt := 88) E dX9_likeOf_81 (by decide) (fun c2 => ?_) (fun c2 => ?_)
    · have hf := gp hf c2
      refine g_lload E 6 dX9_likeOf_88 rfl ?_
      exact g_sub [0, 1, 2, 4] rfl (fX9_likeOf_w90 E rc5 hrc5 σ x1 x2 x5 x3 x7 r hf)
    · have hf := gn hf c2
      refine g_lconst (v := (1 : Int64)) E dX9_likeOf_84 (by decide) ?_
      refine g_goto (tgt := 90) E dX9_likeOf_85 (by decide) ?_
      exact g_sub [0, 1, 2, 4] rfl (fX9_likeOf_w90 E rc5 hrc5 σ x1 x2 x5 x3 (1 : Int64) r hf)
  · have hf := gn hf c1
    refine g_lload E 6 dX9_likeOf_39 rfl ?_
    refine g_aload_n E 0 dX9_likeOf_41 rfl rfl ?_
    refine g_iload E 4 dX9_likeOf_42 rfl ?_
    refine g_iload_n E 1 dX9_likeOf_44 rfl rfl ?_
    refine g_iload_n E 2 dX9_likeOf_45 rfl rfl ?_
    refine g_iload E 7 dX9_likeOf_46 rfl ?_
    obtain ⟨q3, hq4, hf⟩ := gb hf
    refine g_callV (C := RX9) (T := TX9) (N := 20) (ci := 9) (As := [.int x5, .int x1, .int x2, .int x9]) (rest := [.long x7]) (n := 4) E 0 (fX9_markOf_c k σ x5 x1 x2 x9 q3 hq4) gX9_likeOf_X9_markOf rfl rfl rfl (by decide +kernel) ⟨Nat.le_of_ble_eq_true rfl, Nat.le_of_ble_eq_true rfl⟩ rfl rfl (Nat.le_of_ble_eq_true rfl) rfl (mwG0 _ _) dX9_likeOf_48 ?_
    refine g_iload E 5 dX9_likeOf_51 rfl ?_
    refine g_icmp_ne (tgt := 68) E dX9_likeOf_53 (by decide) (fun c5 => ?_) (fun c5 => ?_)
    · have hf := gn hf c5
      refine g_lconst (v := (0 : Int64)) E dX9_likeOf_68 (by decide) ?_
      exact g_sub [0, 1, 2, 3, 4, 5, 7] rfl (fX9_likeOf_w69 E rc5 hrc5 rc33 hrc33 q3.2 x1 x2 x3 x5 x6 x9 x7 (0 : Int64) r hf)
    · have hf := gp hf c5
      refine g_aload_n E 0 dX9_likeOf_56 rfl rfl ?_
      refine g_iload E 4 dX9_likeOf_57 rfl ?_
      refine g_iload E 7 dX9_likeOf_59 rfl ?_
      obtain ⟨q6, hq7, hf⟩ := gb hf
      refine g_callV (C := RX9) (T := TX9) (N := 20) (ci := 9) (As := [.int x5, .int x9]) (rest := [.long x7]) (n := 2) E 0 (fX9_quarters_c k q3.2 x5 x9 q6 hq7) gX9_likeOf_X9_quarters rfl rfl rfl (by decide +kernel) ⟨Nat.le_of_ble_eq_true rfl, Nat.le_of_ble_eq_true rfl⟩ rfl rfl (Nat.le_of_ble_eq_true rfl) rfl (mwG0 _ _) dX9_likeOf_61 ?_
      refine g_i2l E dX9_likeOf_64 ?_
      refine g_goto (tgt := 69) E dX9_likeOf_65 (by decide) ?_
      exact g_sub [0, 1, 2, 3, 4, 5, 7] rfl (fX9_likeOf_w69 E rc5 hrc5 rc33 hrc33 q6.2 x1 x2 x3 x5 x6 x9 x7 q6.1.toInt64 r hf)
theorem fX9_likeOf_v33 {k : gK} {X : gX} (E : gE k X cX9_likeOf RX9 wsX9_likeOf 10 (some .long) rm_fX9_likeOf) (rc5 : St → Int32 → Int32 → Int64 → Int32 → Option (Int64 × St)) (hrc5 : ∀ (σ : St) (x1 : Int32) (x2 : Int32) (x3 : Int64) (x5 : Int32) (r : Int64 × St), rc5 σ x1 x2 x3 x5 = some r → G k X 10 (some (.long r.1)) (mw k.2.2.2 r.2) (mw k.2.2.2 σ) [(0, .ref (k.2.2.2.1 0)), (1, .int x1), (2, .int x2), (3, .long x3), (5, .int x5)] [] 5) : ∀ (n : Nat) (σ : St) (x1 : Int32) (x2 : Int32) (x3 : Int64) (x5 : Int32) (x6 : Int32) (x7 : Int64) (x9 : Int32) (r : Int64 × St), fX9_likeOf_l33 rc5 n σ x1 x2 x3 x5 x6 x7 x9 = some r → G k X 10 (some (.long r.1)) (mw k.2.2.2 r.2) (mw k.2.2.2 σ) [(0, .ref (k.2.2.2.1 0)), (1, .int x1), (2, .int x2), (3, .long x3), (5, .int x5), (6, .int x6), (7, .long x7), (9, .int x9)] [] 33 := by
  intro n
  induction n with
  | zero => intro σ x1 x2 x3 x5 x6 x7 x9 r hf; cases hf
  | succ n ih => intro σ x1 x2 x3 x5 x6 x7 x9 r hf; exact fX9_likeOf_w33 E rc5 hrc5 (fX9_likeOf_l33 rc5 n) ih σ x1 x2 x3 x5 x6 x7 x9 r hf
set_option maxHeartbeats 4000000 in
set_option maxRecDepth 100000 in
theorem fX9_likeOf_w5 {k : gK} {X : gX} (E : gE k X cX9_likeOf RX9 wsX9_likeOf 10 (some .long) rm_fX9_likeOf) (rc5 : St → Int32 → Int32 → Int64 → Int32 → Option (Int64 × St)) (hrc5 : ∀ (σ : St) (x1 : Int32) (x2 : Int32) (x3 : Int64) (x5 : Int32) (r : Int64 × St), rc5 σ x1 x2 x3 x5 = some r → G k X 10 (some (.long r.1)) (mw k.2.2.2 r.2) (mw k.2.2.2 σ) [(0, .ref (k.2.2.2.1 0)), (1, .int x1), (2, .int x2), (3, .long x3), (5, .int x5)] [] 5) (σ : St) (x1 : Int32) (x2 : Int32) (x3 : Int64) (x5 : Int32) (r : Int64 × St) (hf : fX9_likeOf_b5 rc5 σ x1 x2 x3 x5 = some r) : G k X 10 (some (.long r.1)) (mw k.2.2.2 r.2) (mw k.2.2.2 σ) [(0, .ref (k.2.2.2.1 0)), (1, .int x1), (2, .int x2), (3, .long x3), (5, .int x5)] [] 5 := by
  unfold fX9_likeOf_b5 at hf
  refine g_iload E 4 dX9_likeOf_5 rfl ?_
  refine g_aload_n E 0 dX9_likeOf_7 rfl rfl ?_
  refine g_get (C := RX9) (T := TX9) (N := 20) (ci := 9) E 0 3 (.int (σ.2.1 0)) hi_X9_likeOf_X9 (mwG0 _ _) rfl (by decide) hk_X9_likeOf_63 rfl dX9_likeOf_8 ?_
  refine g_icmp_ge (tgt := 98) E dX9_likeOf_11 (by decide) (fun c1 => ?_) (fun c1 => ?_)
  · have hf := gp hf c1
    refine g_lload_n E 3 dX9_likeOf_98 rfl rfl ?_
    have hf := Option.some.inj hf
    subst hf
    exact g_lret E dX9_likeOf_99
  · have hf := gn hf c1
    refine g_aload_n E 0 dX9_likeOf_14 rfl rfl ?_
    refine g_get (C := RX9) (T := TX9) (N := 20) (ci := 9) E 0 10 (.ref (k.2.2.2.1 9)) hi_X9_likeOf_X9 (mwG0 _ _) rfl (by decide) hk_X9_likeOf_34 rfl dX9_likeOf_15 ?_
    refine g_iload E 4 dX9_likeOf_18 rfl ?_
    refine g_iload_n E 1 dX9_likeOf_20 rfl rfl ?_
    obtain ⟨q2, hq3, hf⟩ := gb hf
    refine g_callS (As := [.int x5, .int x1]) (rest := [.ref (k.2.2.2.1 9)]) (n := 2) E (fX9_at_c k σ x5 x1 q2 hq3) gX9_likeOf_X9_at rfl rfl rfl (by decide +kernel) ⟨Nat.le_of_ble_eq_true rfl, Nat.le_of_ble_eq_true rfl⟩ rfl rfl (Nat.le_of_ble_eq_true rfl) dX9_likeOf_21 ?_
    obtain ⟨hi4, hf⟩ := gd hf
    refine g_iald E 9 (q2.2.1 9) (mwG9 _ _) hi4 dX9_likeOf_24 ?_
    refine g_istore E [(6, .int (q2.2.1 9 q2.1.toNatClampNeg)), (0, .ref (k.2.2.2.1 0)), (1, .int x1), (2, .int x2), (3, .long x3), (5, .int x5)] dX9_likeOf_25 (by decide) rfl ?_
    refine g_lconst (v := (0 : Int64)) E dX9_likeOf_27 (by decide) ?_
    refine g_lstore E [(7, .long (0 : Int64)), (6, .int (q2.2.1 9 q2.1.toNatClampNeg)), (0, .ref (k.2.2.2.1 0)), (1, .int x1), (2, .int x2), (3, .long x3), (5, .int x5)] dX9_likeOf_28 (by decide) rfl ?_
    refine g_iconst (v := (0 : Int32)) E dX9_likeOf_30 (by decide) ?_
    refine g_istore E [(9, .int (0 : Int32)), (7, .long (0 : Int64)), (6, .int (q2.2.1 9 q2.1.toNatClampNeg)), (0, .ref (k.2.2.2.1 0)), (1, .int x1), (2, .int x2), (3, .long x3), (5, .int x5)] dX9_likeOf_31 (by decide) rfl ?_
    exact g_sub [3, 4, 5, 6, 7, 2, 1, 0] rfl (fX9_likeOf_v33 E rc5 hrc5 gF q2.2 x1 x2 x3 x5 (q2.2.1 9 q2.1.toNatClampNeg) (0 : Int64) (0 : Int32) r hf)
theorem fX9_likeOf_v5 {k : gK} {X : gX} (E : gE k X cX9_likeOf RX9 wsX9_likeOf 10 (some .long) rm_fX9_likeOf) : ∀ (n : Nat) (σ : St) (x1 : Int32) (x2 : Int32) (x3 : Int64) (x5 : Int32) (r : Int64 × St), fX9_likeOf_l5 n σ x1 x2 x3 x5 = some r → G k X 10 (some (.long r.1)) (mw k.2.2.2 r.2) (mw k.2.2.2 σ) [(0, .ref (k.2.2.2.1 0)), (1, .int x1), (2, .int x2), (3, .long x3), (5, .int x5)] [] 5 := by
  intro n
  induction n with
  | zero => intro σ x1 x2 x3 x5 r hf; cases hf
  | succ n ih => intro σ x1 x2 x3 x5 r hf; exact fX9_likeOf_w5 E (fX9_likeOf_l5 n) ih σ x1 x2 x3 x5 r hf
set_option maxHeartbeats 4000000 in
set_option maxRecDepth 100000 in
theorem fX9_likeOf_c (k : gK) (σ : St) (x1 : Int32) (x2 : Int32) (r : Int64 × St) (hf : fX9_likeOf σ x1 x2 = some r) : MC k yX9_likeOf wsX9_likeOf rm_fX9_likeOf [.ref (k.2.2.2.1 0), .int x1, .int x2] (mw k.2.2.2 σ) (some (.long r.1)) (mw k.2.2.2 r.2) := by
  refine MC_of (cc := cX9_likeOf) (maxL := 10) (ret := (some .long)) (own := RX9) (lvs := [(0, .ref (k.2.2.2.1 0)), (1, .int x1), (2, .int x2)]) (by decide) rfl rfl (Nat.le_of_ble_eq_true rfl) rfl (fun X E => ?_)
  unfold fX9_likeOf at hf
  refine g_lconst (v := (1 : Int64)) E dX9_likeOf_0 (by decide) ?_
  refine g_lstore_n E [(3, .long (1 : Int64)), (0, .ref (k.2.2.2.1 0)), (1, .int x1), (2, .int x2)] dX9_likeOf_1 rfl (by decide) rfl ?_
  refine g_iconst (v := (0 : Int32)) E dX9_likeOf_2 (by decide) ?_
  refine g_istore E [(5, .int (0 : Int32)), (3, .long (1 : Int64)), (0, .ref (k.2.2.2.1 0)), (1, .int x1), (2, .int x2)] dX9_likeOf_3 (by decide) rfl ?_
  exact g_sub [2, 3, 4, 1, 0] rfl (fX9_likeOf_v5 E gF σ x1 x2 (1 : Int64) (0 : Int32) r hf)
def rm_fX9_worth : Room := { frames := 3, cells := 0, slots := 0, locals := 75 }
set_option maxHeartbeats 4000000 in
set_option maxRecDepth 100000 in
theorem fX9_worth_w41 {k : gK} {X : gX} (E : gE k X cX9_worth RX9 wsX9_worth 7 (some .long) rm_fX9_worth) (rc41 : St → Int32 → Int32 → Int32 → Int64 → Int32 → Option (Int64 × St)) (hrc41 : ∀ (σ : St) (x1 : Int32) (x2 : Int32) (x3 : Int32) (x4 : Int64) (x6 : Int32) (r : Int64 × St), rc41 σ x1 x2 x3 x4 x6 = some r → G k X 7 (some (.long r.1)) (mw k.2.2.2 r.2) (mw k.2.2.2 σ) [(0, .ref (k.2.2.2.1 0)), (1, .int x1), (2, .int x2), (3, .int x3), (4, .long x4), (6, .int x6)] [] 41) (σ : St) (x1 : Int32) (x2 : Int32) (x3 : Int32) (x4 : Int64) (x6 : Int32) (r : Int64 × St) (hf : fX9_worth_b41 rc41 σ x1 x2 x3 x4 x6 = some r) : G k X 7 (some (.long r.1)) (mw k.2.2.2 r.2) (mw k.2.2.2 σ) [(0, .ref (k.2.2.2.1 0)), (1, .int x1), (2, .int x2), (3, .int x3), (4, .long x4), (6, .int x6)] [] 41 := by
  unfold fX9_worth_b41 at hf
  refine g_iload E 5 dX9_worth_41 rfl ?_
  refine g_bipush (v := (6 : Int32)) E dX9_worth_43 (by decide) ?_
  refine g_icmp_ge (tgt := 66) E dX9_worth_45 (by decide) (fun c1 => ?_) (fun c1 => ?_)
  · have hf := gp hf c1
    refine g_lload E 4 dX9_worth_66 rfl ?_
    refine g_lconst (v := (0 : Int64)) E dX9_worth_68 (by decide) ?_
    refine g_lcmp E dX9_worth_69 ?_
    refine g_if_ne (tgt := 78) E dX9_worth_70 (by decide) (fun c2 => ?_) (fun c2 => ?_)
    · have hf := gn hf c2
      refine g_aload_n E 0 dX9_worth_78 rfl rfl ?_
      refine g_iload_n E 1 dX9_worth_79 rfl rfl ?_
      refine g_iload_n E 2 dX9_worth_80 rfl rfl ?_
      obtain ⟨q3, hq4, hf⟩ := gb hf
      refine g_callV (C := RX9) (T := TX9) (N := 20) (ci := 9) (As := [.int x1, .int x2]) (rest := []) (n := 2) E 0 (fX9_likeOf_c k σ x1 x2 q3 hq4) gX9_worth_X9_likeOf rfl rfl rfl (by decide +kernel) ⟨Nat.le_of_ble_eq_true rfl, Nat.le_of_ble_eq_true rfl⟩ rfl rfl (Nat.le_of_ble_eq_true rfl) rfl (mwG0 _ _) dX9_worth_81 ?_
      refine g_lload E 4 dX9_worth_84 rfl ?_
      refine g_iload_n E 3 dX9_worth_86 rfl rfl ?_
      obtain ⟨q5, hq6, hf⟩ := gb hf
      refine g_callS (As := [.long q3.1, .long x4, .int x3]) (rest := []) (n := 3) E (fX9_lowest_c k q3.2 q3.1 x4 x3 q5 hq6) gX9_worth_X9_lowest rfl rfl rfl (by decide +kernel) ⟨Nat.le_of_ble_eq_true rfl, Nat.le_of_ble_eq_true rfl⟩ rfl rfl (Nat.le_of_ble_eq_true rfl) dX9_worth_87 ?_
      have hf := Option.some.inj hf
      subst hf
      exact g_lret E dX9_worth_90
    · have hf := gp hf c2
      refine g_iload_n E 3 dX9_worth_73 rfl rfl ?_
      refine g_i2l E dX9_worth_74 ?_
      refine g_goto (tgt := 90) E dX9_worth_75 (by decide) ?_
      have hf := Option.some.inj hf
      subst hf
      exact g_lret E dX9_worth_90
  · have hf := gn hf c1
    refine g_lload E 4 dX9_worth_48 rfl ?_
    refine g_aload_n E 0 dX9_worth_50 rfl rfl ?_
    refine g_iload_n E 1 dX9_worth_51 rfl rfl ?_
    refine g_iload E 5 dX9_worth_52 rfl ?_
    obtain ⟨q7, hq8, hf⟩ := gb hf
    refine g_callV (C := RX9) (T := TX9) (N := 20) (ci := 9) (As := [.int x1, .int x6]) (rest := [.long x4]) (n := 2) E 0 (fX9_likeOf_c k σ x1 x6 q7 hq8) gX9_worth_X9_likeOf rfl rfl rfl (by decide +kernel) ⟨Nat.le_of_ble_eq_true rfl, Nat.le_of_ble_eq_true rfl⟩ rfl rfl (Nat.le_of_ble_eq_true rfl) rfl (mwG0 _ _) dX9_worth_54 ?_
    refine g_ladd E dX9_worth_57 ?_
    refine g_lstore E [(4, .long (x4 + q7.1)), (0, .ref (k.2.2.2.1 0)), (1, .int x1), (2, .int x2), (3, .int x3), (6, .int x6)] dX9_worth_58 (by decide) rfl ?_
    refine g_iinc E 5 [(6, .int (x6 + (1 : Int32))), (4, .long (x4 + q7.1)), (0, .ref (k.2.2.2.1 0)), (1, .int x1), (2, .int x2), (3, .int x3)] (x6 + (1 : Int32)) dX9_worth_60 rfl (by rfl) (by decide) rfl ?_
    refine g_goto (tgt := 41) E dX9_worth_63 (by decide) ?_
    exact g_sub [2, 3, 4, 5, 1, 0] rfl (hrc41 q7.2 x1 x2 x3 (x4 + q7.1) (x6 + (1 : Int32)) r hf)
theorem fX9_worth_v41 {k : gK} {X : gX} (E : gE k X cX9_worth RX9 wsX9_worth 7 (some .long) rm_fX9_worth) : ∀ (n : Nat) (σ : St) (x1 : Int32) (x2 : Int32) (x3 : Int32) (x4 : Int64) (x6 : Int32) (r : Int64 × St), fX9_worth_l41 n σ x1 x2 x3 x4 x6 = some r → G k X 7 (some (.long r.1)) (mw k.2.2.2 r.2) (mw k.2.2.2 σ) [(0, .ref (k.2.2.2.1 0)), (1, .int x1), (2, .int x2), (3, .int x3), (4, .long x4), (6, .int x6)] [] 41 := by
  intro n
  induction n with
  | zero => intro σ x1 x2 x3 x4 x6 r hf; cases hf
  | succ n ih => intro σ x1 x2 x3 x4 x6 r hf; exact fX9_worth_w41 E (fX9_worth_l41 n) ih σ x1 x2 x3 x4 x6 r hf
set_option maxHeartbeats 4000000 in
set_option maxRecDepth 100000 in
theorem fX9_worth_c (k : gK) (σ : St) (x1 : Int32) (x2 : Int32) (x3 : Int32) (r : Int64 × St) (hf : fX9_worth σ x1 x2 x3 = some r) : MC k yX9_worth wsX9_worth rm_fX9_worth [.ref (k.2.2.2.1 0), .int x1, .int x2, .int x3] (mw k.2.2.2 σ) (some (.long r.1)) (mw k.2.2.2 r.2) := by
  refine MC_of (cc := cX9_worth) (maxL := 7) (ret := (some .long)) (own := RX9) (lvs := [(0, .ref (k.2.2.2.1 0)), (1, .int x1), (2, .int x2), (3, .int x3)]) (by decide) rfl rfl (Nat.le_of_ble_eq_true rfl) rfl (fun X E => ?_)
  unfold fX9_worth at hf
  refine g_aload_n E 0 dX9_worth_0 rfl rfl ?_
  refine g_iload_n E 1 dX9_worth_1 rfl rfl ?_
  obtain ⟨q1, hq2, hf⟩ := gb hf
  refine g_callV (C := RX9) (T := TX9) (N := 20) (ci := 9) (As := [.int x1]) (rest := []) (n := 1) E 0 (fX9_isPaper_c k σ x1 q1 hq2) gX9_worth_X9_isPaper rfl rfl rfl (by decide +kernel) ⟨Nat.le_of_ble_eq_true rfl, Nat.le_of_ble_eq_true rfl⟩ rfl rfl (Nat.le_of_ble_eq_true rfl) rfl (mwG0 _ _) dX9_worth_2 ?_
  refine g_if_ne (tgt := 12) E dX9_worth_5 (by decide) (fun c3 => ?_) (fun c3 => ?_)
  · have hf := gn hf c3
    refine g_iload_n E 2 dX9_worth_12 rfl rfl ?_
    refine g_i2l E dX9_worth_13 ?_
    refine g_lconst (v := (0 : Int64)) E dX9_worth_14 (by decide) ?_
    refine g_ldc2 (v := (5 : Int64)) E (by decide +kernel) dX9_worth_15 ?_
    obtain ⟨q4, hq5, hf⟩ := gb hf
    refine g_callS (As := [.long x2.toInt64, .long (0 : Int64), .long (5 : Int64)]) (rest := []) (n := 3) E (fX9_in_c k q1.2 x2.toInt64 (0 : Int64) (5 : Int64) q4 hq5) gX9_worth_X9_in rfl rfl rfl (by decide +kernel) ⟨Nat.le_of_ble_eq_true rfl, Nat.le_of_ble_eq_true rfl⟩ rfl rfl (Nat.le_of_ble_eq_true rfl) dX9_worth_18 ?_
    refine g_if_eq (tgt := 31) E dX9_worth_21 (by decide) (fun c6 => ?_) (fun c6 => ?_)
    · have hf := gp hf c6
      refine g_ldc2 (v := (-1000000000000000002 : Int64)) E (by decide +kernel) dX9_worth_31 ?_
      have hf := Option.some.inj hf
      subst hf
      exact g_lret E dX9_worth_34
    · have hf := gn hf c6
      refine g_iload_n E 3 dX9_worth_24 rfl rfl ?_
      obtain ⟨q7, hq8, hf⟩ := gb hf
      refine g_callS (As := [.int x3]) (rest := []) (n := 1) E (fX9_isPart_c k q4.2 x3 q7 hq8) gX9_worth_X9_isPart rfl rfl rfl (by decide +kernel) ⟨Nat.le_of_ble_eq_true rfl, Nat.le_of_ble_eq_true rfl⟩ rfl rfl (Nat.le_of_ble_eq_true rfl) dX9_worth_25 ?_
      refine g_if_ne (tgt := 35) E dX9_worth_28 (by decide) (fun c9 => ?_) (fun c9 => ?_)
      · have hf := gn hf c9
        refine g_lconst (v := (0 : Int64)) E dX9_worth_35 (by decide) ?_
        refine g_lstore E [(4, .long (0 : Int64)), (0, .ref (k.2.2.2.1 0)), (1, .int x1), (2, .int x2), (3, .int x3)] dX9_worth_36 (by decide) rfl ?_
        refine g_iconst (v := (0 : Int32)) E dX9_worth_38 (by decide) ?_
        refine g_istore E [(6, .int (0 : Int32)), (4, .long (0 : Int64)), (0, .ref (k.2.2.2.1 0)), (1, .int x1), (2, .int x2), (3, .int x3)] dX9_worth_39 (by decide) rfl ?_
        exact g_sub [2, 3, 4, 5, 1, 0] rfl (fX9_worth_v41 E gF q7.2 x1 x2 x3 (0 : Int64) (0 : Int32) r hf)
      · have hf := gp hf c9
        refine g_ldc2 (v := (-1000000000000000002 : Int64)) E (by decide +kernel) dX9_worth_31 ?_
        have hf := Option.some.inj hf
        subst hf
        exact g_lret E dX9_worth_34
  · have hf := gp hf c3
    refine g_ldc2 (v := (-1000000000000000001 : Int64)) E (by decide +kernel) dX9_worth_8 ?_
    have hf := Option.some.inj hf
    subst hf
    exact g_lret E dX9_worth_11
