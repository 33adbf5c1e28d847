theorem hi_X2_bidsTogether_X2 : ∀ w ∈ wsX20, w ∈ wsX2_bidsTogether := by decide +kernel
theorem hi_X2_bidsTogether_X0 : ∀ w ∈ wsX00, w ∈ wsX2_bidsTogether := by decide +kernel
theorem hi_X2_bidsTogether_X4 : ∀ w ∈ wsX40, w ∈ wsX2_bidsTogether := by decide +kernel
theorem hk_X2_bidsTogether_34 : Cond.fieldLink RX2 34 "PaperMarks$Match" "judges" "LPaperMarks$Judges;" ∈ wsX2_bidsTogether := by decide +kernel
theorem hk_X2_bidsTogether_65 : Cond.fieldLink RX2 65 "PaperMarks$Judges" "count" "I" ∈ wsX2_bidsTogether := by decide +kernel
theorem hk_X2_bidsTogether_9 : Cond.fieldLink RX2 9 "PaperMarks$Match" "sets" "[I" ∈ wsX2_bidsTogether := by decide +kernel
theorem hk_X2_bidsTogether_38 : Cond.fieldLink RX2 38 "PaperMarks$Match" "papers" "LPaperMarks$Papers;" ∈ wsX2_bidsTogether := by decide +kernel
theorem hk_X2_bidsTogether_48 : Cond.fieldLink RX2 48 "PaperMarks$Papers" "count" "I" ∈ wsX2_bidsTogether := by decide +kernel
def rm_fX2_bidsTogether : Room := { frames := 1, cells := 0, slots := 0, locals := 22 }
set_option maxHeartbeats 4000000 in
set_option maxRecDepth 100000 in
theorem fX2_bidsTogether_w55 {k : gK} {X : gX} (E : gE k X cX2_bidsTogether RX2 wsX2_bidsTogether 4 (some .int) rm_fX2_bidsTogether) (rc4 : St → Int32 → Int32 → Option (Int32 × St)) (hrc4 : ∀ (σ : St) (x1 : Int32) (x2 : Int32) (r : Int32 × St), rc4 σ x1 x2 = some r → G k X 4 (some (.int r.1)) (cw k.2.2.2 r.2) (cw k.2.2.2 σ) [(0, .ref (k.2.2.2.1 7)), (1, .int x1), (2, .int x2)] [] 4) (rc17 : St → Int32 → Int32 → Int32 → Option (Int32 × St)) (hrc17 : ∀ (σ : St) (x1 : Int32) (x2 : Int32) (x3 : Int32) (r : Int32 × St), rc17 σ x1 x2 x3 = some r → G k X 4 (some (.int r.1)) (cw k.2.2.2 r.2) (cw k.2.2.2 σ) [(0, .ref (k.2.2.2.1 7)), (1, .int x1), (2, .int x2), (3, .int x3)] [] 17) (σ : St) (x2 : Int32) (x3 : Int32) (t0 : Int32) (t1 : Int32) (r : Int32 × St) (hf : fX2_bidsTogether_b55 rc4 rc17 σ x2 x3 t0 t1 = some r) : G k X 4 (some (.int r.1)) (cw k.2.2.2 r.2) (cw k.2.2.2 σ) [(0, .ref (k.2.2.2.1 7)), (2, .int x2), (3, .int x3)] [.int t1, .int t0] 55 := by
  unfold fX2_bidsTogether_b55 at hf
  refine g_iadd E dX2_bidsTogether_55 ?_
  refine g_istore_n E [(1, .int (t0 + t1)), (0, .ref (k.2.2.2.1 7)), (2, .int x2), (3, .int x3)] dX2_bidsTogether_56 rfl (by decide) rfl ?_
  refine g_iinc E 3 [(3, .int (x3 + (1 : Int32))), (1, .int (t0 + t1)), (0, .ref (k.2.2.2.1 7)), (2, .int x2)] (x3 + (1 : Int32)) dX2_bidsTogether_57 rfl (by rfl) (by decide) rfl ?_
  refine g_goto (tgt := 17) E dX2_bidsTogether_60 (by decide) ?_
  exact g_sub [2, 1, 3, 0] rfl (hrc17 σ (t0 + t1) x2 (x3 + (1 : Int32)) r hf)
set_option maxHeartbeats 4000000 in
set_option maxRecDepth 100000 in
theorem fX2_bidsTogether_w17 {k : gK} {X : gX} (E : gE k X cX2_bidsTogether RX2 wsX2_bidsTogether 4 (some .int) rm_fX2_bidsTogether) (rc4 : St → Int32 → Int32 → Option (Int32 × St)) (hrc4 : ∀ (σ : St) (x1 : Int32) (x2 : Int32) (r : Int32 × St), rc4 σ x1 x2 = some r → G k X 4 (some (.int r.1)) (cw k.2.2.2 r.2) (cw k.2.2.2 σ) [(0, .ref (k.2.2.2.1 7)), (1, .int x1), (2, .int x2)] [] 4) (rc17 : St → Int32 → Int32 → Int32 → Option (Int32 × St)) (hrc17 : ∀ (σ : St) (x1 : Int32) (x2 : Int32) (x3 : Int32) (r : Int32 × St), rc17 σ x1 x2 x3 = some r → G k X 4 (some (.int r.1)) (cw k.2.2.2 r.2) (cw k.2.2.2 σ) [(0, .ref (k.2.2.2.1 7)), (1, .int x1), (2, .int x2), (3, .int x3)] [] 17) (σ : St) (x1 : Int32) (x2 : Int32) (x3 : Int32) (r : Int32 × St) (hf : fX2_bidsTogether_b17 rc4 rc17 σ x1 x2 x3 = some r) : G k X 4 (some (.int r.1)) (cw k.2.2.2 r.2) (cw k.2.2.2 σ) [(0, .ref (k.2.2.2.1 7)), (1, .int x1), (2, .int x2), (3, .int x3)] [] 17 := by
  unfold fX2_bidsTogether_b17 at hf
  refine g_iload_n E 3 dX2_bidsTogether_17 rfl rfl ?_
  refine g_aload_n E 0 dX2_bidsTogether_18 rfl rfl ?_
  refine g_get (C := RX2) (T := TX2) (N := 9) (ci := 2) E 7 0 (.ref (k.2.2.2.1 1)) hi_X2_bidsTogether_X2 (cwG7 _ _) rfl (by decide) hk_X2_bidsTogether_34 rfl dX2_bidsTogether_19 ?_
  refine g_get (C := RX0) (T := TX0) (N := 5) (ci := 0) E 1 4 (.int (σ.2.1 0)) hi_X2_bidsTogether_X0 (cwG1 _ _) rfl (by decide) hk_X2_bidsTogether_65 rfl dX2_bidsTogether_22 ?_
  refine g_icmp_ge (tgt := 63) E dX2_bidsTogether_25 (by decide) (fun c1 => ?_) (fun c1 => ?_)
  · have hf := gp hf c1
    refine g_iinc E 2 [(2, .int (x2 + (1 : Int32))), (0, .ref (k.2.2.2.1 7)), (1, .int x1), (3, .int x3)] (x2 + (1 : Int32)) dX2_bidsTogether_63 rfl (by rfl) (by decide) rfl ?_
    refine g_goto (tgt := 4) E dX2_bidsTogether_66 (by decide) ?_
    exact g_sub [1, 2, 0] rfl (hrc4 σ x1 (x2 + (1 : Int32)) r hf)
  · have hf := gn hf c1
    refine g_iload_n E 1 dX2_bidsTogether_28 rfl rfl ?_
    refine g_aload_n E 0 dX2_bidsTogether_29 rfl rfl ?_
    refine g_get (C := RX2) (T := TX2) (N := 9) (ci := 2) E 7 2 (.ref (k.2.2.2.1 27)) hi_X2_bidsTogether_X2 (cwG7 _ _) rfl (by decide) hk_X2_bidsTogether_9 rfl dX2_bidsTogether_30 ?_
    refine g_iload_n E 2 dX2_bidsTogether_33 rfl rfl ?_
    obtain ⟨hi2, hf⟩ := gd hf
    refine g_iald E 27 (σ.1 27) (cwG27 _ _) hi2 dX2_bidsTogether_34 ?_
    refine g_iload_n E 3 dX2_bidsTogether_35 rfl rfl ?_
    obtain ⟨q3, hq4, hf⟩ := gb hf
    refine g_callSN (As := [.int (σ.1 27 x2.toNatClampNeg), .int x3]) (rest := [.int x1]) (n := 2) E (fX8_hasBit_c k σ (σ.1 27 x2.toNatClampNeg) x3 q3 hq4) gX2_bidsTogether_X8_hasBit_n68 rfl rfl rfl (by decide +kernel) (by decide +kernel) (by decide +kernel) (by decide +kernel) ⟨Nat.le_of_ble_eq_true rfl, Nat.le_of_ble_eq_true rfl⟩ rfl rfl (Nat.le_of_ble_eq_true rfl) dX2_bidsTogether_36 ?_
    refine g_if_eq (tgt := 54) E dX2_bidsTogether_39 (by decide) (fun c5 => ?_) (fun c5 => ?_)
    · have hf := gp hf c5
      refine g_iconst (v := (0 : Int32)) E dX2_bidsTogether_54 (by decide) ?_
      exact g_sub [0, 2, 3] rfl (fX2_bidsTogether_w55 E rc4 hrc4 rc17 hrc17 q3.2 x2 x3 x1 (0 : Int32) r hf)
    · have hf := gn hf c5
      refine g_aload_n E 0 dX2_bidsTogether_42 rfl rfl ?_
      refine g_get (C := RX2) (T := TX2) (N := 9) (ci := 2) E 7 1 (.ref (k.2.2.2.1 2)) hi_X2_bidsTogether_X2 (cwG7 _ _) rfl (by decide) hk_X2_bidsTogether_38 rfl dX2_bidsTogether_43 ?_
      refine g_iload_n E 3 dX2_bidsTogether_46 rfl rfl ?_
      refine g_iload_n E 2 dX2_bidsTogether_47 rfl rfl ?_
      obtain ⟨q6, hq7, hf⟩ := gb hf
      refine g_callV (C := RX4) (T := TX4) (N := 6) (ci := 4) (As := [.int x3, .int x2]) (rest := [.int x1]) (n := 2) E 2 (fX4_bidOf_c k q3.2 x3 x2 q6 hq7) gX2_bidsTogether_X4_bidOf rfl rfl rfl (by decide +kernel) ⟨Nat.le_of_ble_eq_true rfl, Nat.le_of_ble_eq_true rfl⟩ rfl rfl (Nat.le_of_ble_eq_true rfl) rfl (cwG2 _ _) dX2_bidsTogether_48 ?_
      refine g_goto (tgt := 55) E dX2_bidsTogether_51 (by decide) ?_
      exact g_sub [0, 2, 3] rfl (fX2_bidsTogether_w55 E rc4 hrc4 rc17 hrc17 q6.2 x2 x3 x1 q6.1 r hf)
theorem fX2_bidsTogether_v17 {k : gK} {X : gX} (E : gE k X cX2_bidsTogether RX2 wsX2_bidsTogether 4 (some .int) rm_fX2_bidsTogether) (rc4 : St → Int32 → Int32 → Option (Int32 × St)) (hrc4 : ∀ (σ : St) (x1 : Int32) (x2 : Int32) (r : Int32 × St), rc4 σ x1 x2 = some r → G k X 4 (some (.int r.1)) (cw k.2.2.2 r.2) (cw k.2.2.2 σ) [(0, .ref (k.2.2.2.1 7)), (1, .int x1), (2, .int x2)] [] 4) : ∀ (n : Nat) (σ : St) (x1 : Int32) (x2 : Int32) (x3 : Int32) (r : Int32 × St), fX2_bidsTogether_l17 rc4 n σ x1 x2 x3 = some r → G k X 4 (some (.int r.1)) (cw k.2.2.2 r.2) (cw k.2.2.2 σ) [(0, .ref (k.2.2.2.1 7)), (1, .int x1), (2, .int x2), (3, .int x3)] [] 17 := by
  intro n
  induction n with
  | zero => intro σ x1 x2 x3 r hf; cases hf
  | succ n ih => intro σ x1 x2 x3 r hf; exact fX2_bidsTogether_w17 E rc4 hrc4 (fX2_bidsTogether_l17 rc4 n) ih σ x1 x2 x3 r hf
set_option maxHeartbeats 4000000 in
set_option maxRecDepth 100000 in
theorem fX2_bidsTogether_w4 {k : gK} {X : gX} (E : gE k X cX2_bidsTogether RX2 wsX2_bidsTogether 4 (some .int) rm_fX2_bidsTogether) (rc4 : St → Int32 → Int32 → Option (Int32 × St)) (hrc4 : ∀ (σ : St) (x1 : Int32) (x2 : Int32) (r : Int32 × St), rc4 σ x1 x2 = some r → G k X 4 (some (.int r.1)) (cw k.2.2.2 r.2) (cw k.2.2.2 σ) [(0, .ref (k.2.2.2.1 7)), (1, .int x1), (2, .int x2)] [] 4) (σ : St) (x1 : Int32) (x2 : Int32) (r : Int32 × St) (hf : fX2_bidsTogether_b4 rc4 σ x1 x2 = some r) : G k X 4 (some (.int r.1)) (cw k.2.2.2 r.2) (cw k.2.2.2 σ) [(0, .ref (k.2.2.2.1 7)), (1, .int x1), (2, .int x2)] [] 4 := by
  unfold fX2_bidsTogether_b4 at hf
  refine g_iload_n E 2 dX2_bidsTogether_4 rfl rfl ?_
  refine g_aload_n E 0 dX2_bidsTogether_5 rfl rfl ?_
  refine g_get (C := RX2) (T := TX2) (N := 9) (ci := 2) E 7 1 (.ref (k.2.2.2.1 2)) hi_X2_bidsTogether_X2 (cwG7 _ _) rfl (by decide) hk_X2_bidsTogether_38 rfl dX2_bidsTogether_6 ?_
  refine g_get (C := RX4) (T := TX4) (N := 6) (ci := 4) E 2 5 (.int (σ.2.1 1)) hi_X2_bidsTogether_X4 (cwG2 _ _) rfl (by decide) hk_X2_bidsTogether_48 rfl dX2_bidsTogether_9 ?_
  refine g_icmp_ge (tgt := 69) E dX2_bidsTogether_12 (by decide) (fun c1 => ?_) (fun c1 => ?_)
  · have hf := gp hf c1
    refine g_iload_n E 1 dX2_bidsTogether_69 rfl rfl ?_
    have hf := Option.some.inj hf
    subst hf
    exact g_iret E dX2_bidsTogether_70
  · have hf := gn hf c1
    refine g_iconst (v := (0 : Int32)) E dX2_bidsTogether_15 (by decide) ?_
    refine g_istore_n E [(3, .int (0 : Int32)), (0, .ref (k.2.2.2.1 7)), (1, .int x1), (2, .int x2)] dX2_bidsTogether_16 rfl (by decide) rfl ?_
    exact g_sub [1, 2, 3, 0] rfl (fX2_bidsTogether_v17 E rc4 hrc4 gF σ x1 x2 (0 : Int32) r hf)
theorem fX2_bidsTogether_v4 {k : gK} {X : gX} (E : gE k X cX2_bidsTogether RX2 wsX2_bidsTogether 4 (some .int) rm_fX2_bidsTogether) : ∀ (n : Nat) (σ : St) (x1 : Int32) (x2 : Int32) (r : Int32 × St), fX2_bidsTogether_l4 n σ x1 x2 = some r → G k X 4 (some (.int r.1)) (cw k.2.2.2 r.2) (cw k.2.2.2 σ) [(0, .ref (k.2.2.2.1 7)), (1, .int x1), (2, .int x2)] [] 4 := by
  intro n
  induction n with
  | zero => intro σ x1 x2 r hf; cases hf
  | succ n ih => intro σ x1 x2 r hf; exact fX2_bidsTogether_w4 E (fX2_bidsTogether_l4 n) ih σ x1 x2 r hf
set_option maxHeartbeats 4000000 in
set_option maxRecDepth 100000 in
theorem fX2_bidsTogether_c (k : gK) (σ : St) (r : Int32 × St) (hf : fX2_bidsTogether σ = some r) : MC k yX2_bidsTogether wsX2_bidsTogether rm_fX2_bidsTogether [.ref (k.2.2.2.1 7)] (cw k.2.2.2 σ) (some (.int r.1)) (cw k.2.2.2 r.2) := by
  refine MC_of (cc := cX2_bidsTogether) (maxL := 4) (ret := (some .int)) (own := RX2) (lvs := [(0, .ref (k.2.2.2.1 7))]) (by decide) rfl rfl (Nat.le_of_ble_eq_true rfl) rfl (fun X E => ?_)
  unfold fX2_bidsTogether at hf
  refine g_iconst (v := (0 : Int32)) E dX2_bidsTogether_0 (by decide) ?_
  refine g_istore_n E [(1, .int (0 : Int32)), (0, .ref (k.2.2.2.1 7))] dX2_bidsTogether_1 rfl (by decide) rfl ?_
  refine g_iconst (v := (0 : Int32)) E dX2_bidsTogether_2 (by decide) ?_
  refine g_istore_n E [(2, .int (0 : Int32)), (1, .int (0 : Int32)), (0, .ref (k.2.2.2.1 7))] dX2_bidsTogether_3 rfl (by decide) rfl ?_
  exact g_sub [2, 1, 0] rfl (fX2_bidsTogether_v4 E gF σ (0 : Int32) (0 : Int32) r hf)
theorem hi_X8_match_X8 : ∀ w ∈ wsX80, w ∈ wsX8_match := by decide +kernel
theorem hi_X8_match_X2 : ∀ w ∈ wsX20, w ∈ wsX8_match := by decide +kernel
theorem hk_X8_match_58 : Cond.fieldLink RX8 58 "PaperMarks" "match" "LPaperMarks$Match;" ∈ wsX8_match := by decide +kernel
theorem hk_X8_match_216 : Cond.fieldLink RX8 216 "PaperMarks$Match" "sets" "[I" ∈ wsX8_match := by decide +kernel
theorem hk_X8_match_19 : Cond.fieldLink RX8 19 "PaperMarks" "papers" "LPaperMarks$Papers;" ∈ wsX8_match := by decide +kernel
def rm_fX8_match : Room := { frames := 6, cells := 0, slots := 0, locals := 138 }
set_option maxHeartbeats 4000000 in
set_option maxRecDepth 100000 in
theorem fX8_match_w18 {k : gK} {X : gX} (E : gE k X cX8_match RX8 wsX8_match 4 (some .int) rm_fX8_match) (σ : St) (x1 : Int32) (x2 : Int32) (x3 : Int32) (r : Int32 × St) (hf : fX8_match_b18 σ x1 x2 x3 = some r) : G k X 4 (some (.int r.1)) (cw k.2.2.2 r.2) (cw k.2.2.2 σ) [(0, .ref (k.2.2.2.1 0)), (1, .int x1), (2, .int x2), (3, .int x3)] [] 18 := by
  unfold fX8_match_b18 at hf
  refine g_iload_n E 1 dX8_match_18 rfl rfl ?_
  refine g_iconst (v := (1 : Int32)) E dX8_match_19 (by decide) ?_
  refine g_iconst (v := (3 : Int32)) E dX8_match_20 (by decide) ?_
  obtain ⟨q1, hq2, hf⟩ := gb hf
  refine g_callS (As := [.int x1, .int (1 : Int32), .int (3 : Int32)]) (rest := []) (n := 3) E (fX8_within_c k σ x1 (1 : Int32) (3 : Int32) q1 hq2) gX8_match_X8_within rfl rfl rfl (by decide +kernel) ⟨Nat.le_of_ble_eq_true rfl, Nat.le_of_ble_eq_true rfl⟩ rfl rfl (Nat.le_of_ble_eq_true rfl) dX8_match_21 ?_
  refine g_if_eq (tgt := 36) E dX8_match_24 (by decide) (fun c3 => ?_) (fun c3 => ?_)
  · have hf := gp hf c3
    refine g_bipush (v := (-2 : Int32)) E dX8_match_36 (by decide) ?_
    have hf := Option.some.inj hf
    subst hf
    exact g_iret E dX8_match_38
  · have hf := gn hf c3
    refine g_iload_n E 2 dX8_match_27 rfl rfl ?_
    refine g_iconst (v := (1 : Int32)) E dX8_match_28 (by decide) ?_
    refine g_iconst (v := (4 : Int32)) E dX8_match_29 (by decide) ?_
    obtain ⟨q4, hq5, hf⟩ := gb hf
    refine g_callS (As := [.int x2, .int (1 : Int32), .int (4 : Int32)]) (rest := []) (n := 3) E (fX8_within_c k q1.2 x2 (1 : Int32) (4 : Int32) q4 hq5) gX8_match_X8_within rfl rfl rfl (by decide +kernel) ⟨Nat.le_of_ble_eq_true rfl, Nat.le_of_ble_eq_true rfl⟩ rfl rfl (Nat.le_of_ble_eq_true rfl) dX8_match_30 ?_
    refine g_if_ne (tgt := 39) E dX8_match_33 (by decide) (fun c6 => ?_) (fun c6 => ?_)
    · have hf := gn hf c6
      refine g_aload_n E 0 dX8_match_39 rfl rfl ?_
      refine g_get (C := RX8) (T := TX8) (N := 7) (ci := 8) E 0 6 (.ref (k.2.2.2.1 7)) hi_X8_match_X8 (cwG0 _ _) rfl (by decide) hk_X8_match_58 rfl dX8_match_40 ?_
      refine g_iload_n E 1 dX8_match_43 rfl rfl ?_
      refine g_iload_n E 2 dX8_match_44 rfl rfl ?_
      obtain ⟨q7, hq8, hf⟩ := gb hf
      refine g_callV (C := RX2) (T := TX2) (N := 9) (ci := 2) (As := [.int x1, .int x2]) (rest := []) (n := 2) E 7 (fX2_find_c k q4.2 x1 x2 q7 hq8) gX8_match_X2_find rfl rfl rfl (by decide +kernel) ⟨Nat.le_of_ble_eq_true rfl, Nat.le_of_ble_eq_true rfl⟩ rfl rfl (Nat.le_of_ble_eq_true rfl) rfl (cwG7 _ _) dX8_match_45 ?_
      refine g_if_ne (tgt := 54) E dX8_match_48 (by decide) (fun c9 => ?_) (fun c9 => ?_)
      · have hf := gn hf c9
        refine g_iload_n E 3 dX8_match_54 rfl rfl ?_
        refine g_iconst (v := (-1 : Int32)) E dX8_match_55 (by decide) ?_
        refine g_icmp_ne (tgt := 69) E dX8_match_56 (by decide) (fun c10 => ?_) (fun c10 => ?_)
        · have hf := gn hf c10
          refine g_aload_n E 0 dX8_match_69 rfl rfl ?_
          refine g_get (C := RX8) (T := TX8) (N := 7) (ci := 8) E 0 6 (.ref (k.2.2.2.1 7)) hi_X8_match_X8 (cwG0 _ _) rfl (by decide) hk_X8_match_58 rfl dX8_match_70 ?_
          refine g_get (C := RX2) (T := TX2) (N := 9) (ci := 2) E 7 2 (.ref (k.2.2.2.1 27)) hi_X8_match_X2 (cwG7 _ _) rfl (by decide) hk_X8_match_216 rfl dX8_match_73 ?_
          refine g_iload_n E 3 dX8_match_76 rfl rfl ?_
          obtain ⟨hi11, hf⟩ := gd hf
          refine g_iald E 27 (q7.2.1 27) (cwG27 _ _) hi11 dX8_match_77 ?_
          have hf := Option.some.inj hf
          subst hf
          exact g_iret E dX8_match_78
        · have hf := gp hf c10
          refine g_aload_n E 0 dX8_match_59 rfl rfl ?_
          refine g_get (C := RX8) (T := TX8) (N := 7) (ci := 8) E 0 6 (.ref (k.2.2.2.1 7)) hi_X8_match_X8 (cwG0 _ _) rfl (by decide) hk_X8_match_58 rfl dX8_match_60 ?_
          obtain ⟨q12, hq13, hf⟩ := gb hf
          refine g_callV (C := RX2) (T := TX2) (N := 9) (ci := 2) (As := []) (rest := []) (n := 0) E 7 (fX2_bidsTogether_c k q7.2  q12 hq13) gX8_match_X2_bidsTogether rfl rfl rfl (by decide +kernel) ⟨Nat.le_of_ble_eq_true rfl, Nat.le_of_ble_eq_true rfl⟩ rfl rfl (Nat.le_of_ble_eq_true rfl) rfl (cwG7 _ _) dX8_match_63 ?_
          refine g_goto (tgt := 78) E dX8_match_66 (by decide) ?_
          have hf := Option.some.inj hf
          subst hf
          exact g_iret E dX8_match_78
      · have hf := gp hf c9
        refine g_bipush (v := (-5 : Int32)) E dX8_match_51 (by decide) ?_
        have hf := Option.some.inj hf
        subst hf
        exact g_iret E dX8_match_53
    · have hf := gp hf c6
      refine g_bipush (v := (-2 : Int32)) E dX8_match_36 (by decide) ?_
      have hf := Option.some.inj hf
      subst hf
      exact g_iret E dX8_match_38
set_option maxHeartbeats 4000000 in
set_option maxRecDepth 100000 in
theorem fX8_match_c (k : gK) (σ : St) (x1 : Int32) (x2 : Int32) (x3 : Int32) (r : Int32 × St) (hf : fX8_match σ x1 x2 x3 = some r) : MC k yX8_match wsX8_match rm_fX8_match [.ref (k.2.2.2.1 0), .int x1, .int x2, .int x3] (cw k.2.2.2 σ) (some (.int r.1)) (cw k.2.2.2 r.2) := by
  refine MC_of (cc := cX8_match) (maxL := 4) (ret := (some .int)) (own := RX8) (lvs := [(0, .ref (k.2.2.2.1 0)), (1, .int x1), (2, .int x2), (3, .int x3)]) (by decide) rfl rfl (Nat.le_of_ble_eq_true rfl) rfl (fun X E => ?_)
  unfold fX8_match at hf
  refine g_iload_n E 3 dX8_match_0 rfl rfl ?_
  refine g_iconst (v := (-1 : Int32)) E dX8_match_1 (by decide) ?_
  refine g_icmp_eq (tgt := 18) E dX8_match_2 (by decide) (fun c1 => ?_) (fun c1 => ?_)
  · have hf := gp hf c1
    exact fX8_match_w18 E σ x1 x2 x3 r hf
  · have hf := gn hf c1
    refine g_aload_n E 0 dX8_match_5 rfl rfl ?_
    refine g_get (C := RX8) (T := TX8) (N := 7) (ci := 8) E 0 1 (.ref (k.2.2.2.1 2)) hi_X8_match_X8 (cwG0 _ _) rfl (by decide) hk_X8_match_19 rfl dX8_match_6 ?_
    refine g_iload_n E 3 dX8_match_9 rfl rfl ?_
    obtain ⟨q2, hq3, hf⟩ := gb hf
    refine g_callV (C := RX4) (T := TX4) (N := 6) (ci := 4) (As := [.int x3]) (rest := []) (n := 1) E 2 (fX4_has_c k σ x3 q2 hq3) gX8_match_X4_has rfl rfl rfl (by decide +kernel) ⟨Nat.le_of_ble_eq_true rfl, Nat.le_of_ble_eq_true rfl⟩ rfl rfl (Nat.le_of_ble_eq_true rfl) rfl (cwG2 _ _) dX8_match_10 ?_
    refine g_if_ne (tgt := 18) E dX8_match_13 (by decide) (fun c4 => ?_) (fun c4 => ?_)
    · have hf := gn hf c4
      exact fX8_match_w18 E q2.2 x1 x2 x3 r hf
    · have hf := gp hf c4
      refine g_iconst (v := (-1 : Int32)) E dX8_match_16 (by decide) ?_
      have hf := Option.some.inj hf
      subst hf
      exact g_iret E dX8_match_17
def rm_fJ6_compare_7cf53 : Room := { frames := 0, cells := 0, slots := 0, locals := 0 }
set_option maxHeartbeats 4000000 in
set_option maxRecDepth 100000 in
theorem fJ6_compare_7cf53_c (k : gK) (σ : St) (x0 : Int32) (x1 : Int32) (r : Int32 × St) (hf : fJ6_compare_7cf53 σ x0 x1 = some r) : MC k yJ6_compare_7cf53 wsJ6_compare_7cf53 rm_fJ6_compare_7cf53 [.int x0, .int x1] (cw k.2.2.2 σ) (some (.int r.1)) (cw k.2.2.2 r.2) := by
  refine MC_of (cc := cJ6_compare_7cf53) (maxL := 2) (ret := (some .int)) (own := RJ6) (lvs := [(0, .int x0), (1, .int x1)]) (by decide) rfl rfl (Nat.le_of_ble_eq_true rfl) rfl (fun X E => ?_)
  unfold fJ6_compare_7cf53 at hf
  refine g_iload_n E 0 dJ6_compare_7cf53_0 rfl rfl ?_
  refine g_iload_n E 1 dJ6_compare_7cf53_1 rfl rfl ?_
  refine g_icmp_ge (tgt := 9) E dJ6_compare_7cf53_2 (by decide) (fun c1 => ?_) (fun c1 => ?_)
  · have hf := gp hf c1
    refine g_iload_n E 0 dJ6_compare_7cf53_9 rfl rfl ?_
    refine g_iload_n E 1 dJ6_compare_7cf53_10 rfl rfl ?_
    refine g_icmp_ne (tgt := 18) E dJ6_compare_7cf53_11 (by decide) (fun c2 => ?_) (fun c2 => ?_)
    · have hf := gn hf c2
      refine g_iconst (v := (1 : Int32)) E dJ6_compare_7cf53_18 (by decide) ?_
      have hf := Option.some.inj hf
      subst hf
      exact g_iret E dJ6_compare_7cf53_19
    · have hf := gp hf c2
      refine g_iconst (v := (0 : Int32)) E dJ6_compare_7cf53_14 (by decide) ?_
      refine g_goto (tgt := 19) E dJ6_compare_7cf53_15 (by decide) ?_
      have hf := Option.some.inj hf
      subst hf
      exact g_iret E dJ6_compare_7cf53_19
  · have hf := gn hf c1
    refine g_iconst (v := (-1 : Int32)) E dJ6_compare_7cf53_5 (by decide) ?_
    refine g_goto (tgt := 19) E dJ6_compare_7cf53_6 (by decide) ?_
    have hf := Option.some.inj hf
    subst hf
    exact g_iret E dJ6_compare_7cf53_19
