theorem hi_X9_seen_X9 : ∀ w ∈ wsX90, w ∈ wsX9_seen := by decide +kernel
theorem hk_X9_seen_63 : Cond.fieldLink RX9 63 "PaperMarksModel" "judges" "I" ∈ wsX9_seen := by decide +kernel
theorem hk_X9_seen_25 : Cond.fieldLink RX9 25 "PaperMarksModel" "writers" "[I" ∈ wsX9_seen := by decide +kernel
theorem hk_X9_seen_28 : Cond.fieldLink RX9 28 "PaperMarksModel" "paperKeys" "[I" ∈ wsX9_seen := by decide +kernel
theorem hk_X9_seen_16 : Cond.fieldLink RX9 16 "PaperMarksModel" "judgeKeys" "[I" ∈ wsX9_seen := by decide +kernel
def rm_fX9_seen : Room := { frames := 2, cells := 0, slots := 0, locals := 46 }
set_option maxHeartbeats 4000000 in
set_option maxRecDepth 100000 in
theorem fX9_seen_w101 {k : gK} {X : gX} (E : gE k X cX9_seen RX9 wsX9_seen 5 (some .int) rm_fX9_seen) (σ : St) (x2 : Int32) (x3 : Int32) (t0 : Int32) (r : Int32 × St) (hf : fX9_seen_b101 σ x2 x3 t0 = some r) : G k X 5 (some (.int r.1)) (mw k.2.2.2 r.2) (mw k.2.2.2 σ) [(2, .int x2), (3, .int x3)] [.int t0] 101 := by
  unfold fX9_seen_b101 at hf
  refine g_istore E [(4, .int t0), (2, .int x2), (3, .int x3)] dX9_seen_101 (by decide) rfl ?_
  refine g_iload_n E 1 dX9_seen_103 rfl rfl ?_
  refine g_if_ne (tgt := 111) E dX9_seen_104 (by decide) (fun c1 => ?_) (fun c1 => ?_)
  · have hf := gn hf c1
    refine g_iload E 0 dX9_seen_111 rfl ?_
    refine g_if_eq (tgt := 120) E dX9_seen_113 (by decide) (fun c2 => ?_) (fun c2 => ?_)
    · have hf := gp hf c2
      refine g_iconst (v := (0 : Int32)) E dX9_seen_120 (by decide) ?_
      cases hf
      exact g_iret E dX9_seen_121
    · have hf := gn hf c2
      refine g_iconst (v := (1 : Int32)) E dX9_seen_116 (by decide) ?_
      refine g_goto (tgt := 121) E dX9_seen_117 (by decide) ?_
      cases hf
      exact g_iret E dX9_seen_121
  · have hf := gp hf c1
    refine g_iload_n E 2 dX9_seen_107 rfl rfl ?_
    refine g_goto (tgt := 121) E dX9_seen_108 (by decide) ?_
    cases hf
    exact g_iret E dX9_seen_121
set_option maxHeartbeats 4000000 in
set_option maxRecDepth 100000 in
theorem fX9_seen_w100 {k : gK} {X : gX} (E : gE k X cX9_seen RX9 wsX9_seen 5 (some .int) rm_fX9_seen) (σ : St) (x2 : Int32) (x3 : Int32) (r : Int32 × St) (hf : fX9_seen_b100 σ x2 x3 = some r) : G k X 5 (some (.int r.1)) (mw k.2.2.2 r.2) (mw k.2.2.2 σ) [(2, .int x2), (3, .int x3)] [] 100 := by
  unfold fX9_seen_b100 at hf
  refine g_iconst (v := (0 : Int32)) E dX9_seen_100 (by decide) ?_
  exact fX9_seen_w101 E σ x2 x3 (0 : Int32) r hf
set_option maxHeartbeats 4000000 in
set_option maxRecDepth 100000 in
theorem fX9_seen_w65 {k : gK} {X : gX} (E : gE k X cX9_seen RX9 wsX9_seen 5 (some .int) rm_fX9_seen) (rc28 : St → Int32 → Int32 → Int32 → Int32 → Option (Int32 × St)) (hrc28 : ∀ (σ : St) (x1 : Int32) (x2 : Int32) (x3 : Int32) (x4 : Int32) (r : Int32 × St), rc28 σ x1 x2 x3 x4 = some r → G k X 5 (some (.int r.1)) (mw k.2.2.2 r.2) (mw k.2.2.2 σ) [(0, .ref (k.2.2.2.1 0)), (1, .int x1), (2, .int x2), (3, .int x3), (4, .int x4)] [] 28) (σ : St) (x1 : Int32) (x2 : Int32) (x4 : Int32) (t0 : Int32) (t1 : Int32) (r : Int32 × St) (hf : fX9_seen_b65 rc28 σ x1 x2 x4 t0 t1 = some r) : G k X 5 (some (.int r.1)) (mw k.2.2.2 r.2) (mw k.2.2.2 σ) [(0, .ref (k.2.2.2.1 0)), (1, .int x1), (2, .int x2), (4, .int x4)] [.int t1, .int t0] 65 := by
  unfold fX9_seen_b65 at hf
  refine g_ior E dX9_seen_65 ?_
  refine g_istore_n E [(3, .int (t0 ||| t1)), (0, .ref (k.2.2.2.1 0)), (1, .int x1), (2, .int x2), (4, .int x4)] dX9_seen_66 rfl (by decide) rfl ?_
  refine g_iinc E 4 [(4, .int (x4 + (1 : Int32))), (3, .int (t0 ||| t1)), (0, .ref (k.2.2.2.1 0)), (1, .int x1), (2, .int x2)] (x4 + (1 : Int32)) dX9_seen_67 rfl (by rfl) (by decide) rfl ?_
  refine g_goto (tgt := 28) E dX9_seen_70 (by decide) ?_
  exact g_sub [2, 3, 4, 1, 0] rfl (hrc28 σ x1 x2 (t0 ||| t1) (x4 + (1 : Int32)) r hf)
set_option maxHeartbeats 4000000 in
set_option maxRecDepth 100000 in
theorem fX9_seen_w28 {k : gK} {X : gX} (E : gE k X cX9_seen RX9 wsX9_seen 5 (some .int) rm_fX9_seen) (rc28 : St → Int32 → Int32 → Int32 → Int32 → Option (Int32 × St)) (hrc28 : ∀ (σ : St) (x1 : Int32) (x2 : Int32) (x3 : Int32) (x4 : Int32) (r : Int32 × St), rc28 σ x1 x2 x3 x4 = some r → G k X 5 (some (.int r.1)) (mw k.2.2.2 r.2) (mw k.2.2.2 σ) [(0, .ref (k.2.2.2.1 0)), (1, .int x1), (2, .int x2), (3, .int x3), (4, .int x4)] [] 28) (σ : St) (x1 : Int32) (x2 : Int32) (x3 : Int32) (x4 : Int32) (r : Int32 × St) (hf : fX9_seen_b28 rc28 σ x1 x2 x3 x4 = some r) : G k X 5 (some (.int r.1)) (mw k.2.2.2 r.2) (mw k.2.2.2 σ) [(0, .ref (k.2.2.2.1 0)), (1, .int x1), (2, .int x2), (3, .int x3), (4, .int x4)] [] 28 := by
  unfold fX9_seen_b28 at hf
  refine g_iload E 4 dX9_seen_28 rfl ?_
  refine g_aload_n E 0 dX9_seen_30 rfl rfl ?_
  refine g_get (C := RX9) (T := TX9) (N := 20) (ci := 9) E 0 3 (.int (σ.2.1 0)) hi_X9_seen_X9 (mwG0 _ _) rfl (by decide) hk_X9_seen_63 rfl dX9_seen_31 ?_
  refine g_icmp_ge (tgt := 73) E dX9_seen_34 (by decide) (fun c1 => ?_) (fun c1 => ?_)
  · have hf := gp hf c1
    refine g_aload_n E 0 dX9_seen_73 rfl rfl ?_
    refine g_get (C := RX9) (T := TX9) (N := 20) (ci := 9) E 0 6 (.ref (k.2.2.2.1 6)) hi_X9_seen_X9 (mwG0 _ _) rfl (by decide) hk_X9_seen_25 rfl dX9_seen_74 ?_
    refine g_iload_n E 1 dX9_seen_77 rfl rfl ?_
    obtain ⟨hi2, hf⟩ := gd hf
    refine g_iald E 6 (σ.1 6) (mwG6 _ _) hi2 dX9_seen_78 ?_
    refine g_bipush (v := (-6 : Int32)) E dX9_seen_79 (by decide) ?_
    refine g_icmp_eq (tgt := 100) E dX9_seen_81 (by decide) (fun c3 => ?_) (fun c3 => ?_)
    · have hf := gp hf c3
      exact g_sub [2, 3] rfl (fX9_seen_w100 E σ x2 x3 r hf)
    · have hf := gn hf c3
      refine g_iload_n E 3 dX9_seen_84 rfl rfl ?_
      refine g_iconst (v := (1 : Int32)) E dX9_seen_85 (by decide) ?_
      refine g_aload_n E 0 dX9_seen_86 rfl rfl ?_
      refine g_get (C := RX9) (T := TX9) (N := 20) (ci := 9) E 0 6 (.ref (k.2.2.2.1 6)) hi_X9_seen_X9 (mwG0 _ _) rfl (by decide) hk_X9_seen_25 rfl dX9_seen_87 ?_
      refine g_iload_n E 1 dX9_seen_90 rfl rfl ?_
      obtain ⟨hi4, hf⟩ := gd hf
      refine g_iald E 6 (σ.1 6) (mwG6 _ _) hi4 dX9_seen_91 ?_
      refine g_ishl E dX9_seen_92 ?_
      refine g_icmp_ne (tgt := 100) E dX9_seen_93 (by decide) (fun c5 => ?_) (fun c5 => ?_)
      · have hf := gn hf c5
        exact g_sub [2, 3] rfl (fX9_seen_w100 E σ x2 x3 r hf)
      · have hf := gp hf c5
        refine g_iconst (v := (1 : Int32)) E dX9_seen_96 (by decide) ?_
        refine g_goto (tgt := 101) E dX9_seen_97 (by decide) ?_
        exact g_sub [2, 3] rfl (fX9_seen_w101 E σ x2 x3 (1 : Int32) r hf)
  · have hf := gn hf c1
    refine g_iload_n E 3 dX9_seen_37 rfl rfl ?_
    refine g_aload_n E 0 dX9_seen_38 rfl rfl ?_
    refine g_get (C := RX9) (T := TX9) (N := 20) (ci := 9) E 0 7 (.ref (k.2.2.2.1 7)) hi_X9_seen_X9 (mwG0 _ _) rfl (by decide) hk_X9_seen_28 rfl dX9_seen_39 ?_
    refine g_iload_n E 1 dX9_seen_42 rfl rfl ?_
    obtain ⟨hi6, hf⟩ := gd hf
    refine g_iald E 7 (σ.1 7) (mwG7 _ _) hi6 dX9_seen_43 ?_
    refine g_aload_n E 0 dX9_seen_44 rfl rfl ?_
    refine g_get (C := RX9) (T := TX9) (N := 20) (ci := 9) E 0 2 (.ref (k.2.2.2.1 3)) hi_X9_seen_X9 (mwG0 _ _) rfl (by decide) hk_X9_seen_16 rfl dX9_seen_45 ?_
    refine g_iload E 4 dX9_seen_48 rfl ?_
    obtain ⟨hi7, hf⟩ := gd hf
    refine g_iald E 3 (σ.1 3) (mwG3 _ _) hi7 dX9_seen_50 ?_
    refine g_iconst (v := (-1 : Int32)) E dX9_seen_51 (by decide) ?_
    refine g_ixor E dX9_seen_52 ?_
    refine g_iand E dX9_seen_53 ?_
    refine g_if_ne (tgt := 64) E dX9_seen_54 (by decide) (fun c8 => ?_) (fun c8 => ?_)
    · have hf := gn hf c8
      refine g_iconst (v := (0 : Int32)) E dX9_seen_64 (by decide) ?_
      exact g_sub [0, 1, 2, 4] rfl (fX9_seen_w65 E rc28 hrc28 σ x1 x2 x4 x3 (0 : Int32) r hf)
    · have hf := gp hf c8
      refine g_iconst (v := (1 : Int32)) E dX9_seen_57 (by decide) ?_
      refine g_iload E 4 dX9_seen_58 rfl ?_
      refine g_ishl E dX9_seen_60 ?_
      refine g_goto (tgt := 65) E dX9_seen_61 (by decide) ?_
      exact g_sub [0, 1, 2, 4] rfl (fX9_seen_w65 E rc28 hrc28 σ x1 x2 x4 x3 ((1 : Int32) <<< (x4 &&& 31)) r hf)
theorem fX9_seen_v28 {k : gK} {X : gX} (E : gE k X cX9_seen RX9 wsX9_seen 5 (some .int) rm_fX9_seen) : ∀ (n : Nat) (σ : St) (x1 : Int32) (x2 : Int32) (x3 : Int32) (x4 : Int32) (r : Int32 × St), fX9_seen_l28 n σ x1 x2 x3 x4 = some r → G k X 5 (some (.int r.1)) (mw k.2.2.2 r.2) (mw k.2.2.2 σ) [(0, .ref (k.2.2.2.1 0)), (1, .int x1), (2, .int x2), (3, .int x3), (4, .int x4)] [] 28 := by
  intro n
  induction n with
  | zero => intro σ x1 x2 x3 x4 r hf; cases hf
  | succ n ih => intro σ x1 x2 x3 x4 r hf; exact fX9_seen_w28 E (fX9_seen_l28 n) ih σ x1 x2 x3 x4 r hf
set_option maxHeartbeats 4000000 in
set_option maxRecDepth 100000 in
theorem fX9_seen_c (k : gK) (σ : St) (x1 : Int32) (x2 : Int32) (r : Int32 × St) (hf : fX9_seen σ x1 x2 = some r) : MC k yX9_seen wsX9_seen rm_fX9_seen [.ref (k.2.2.2.1 0), .int x1, .int x2] (mw k.2.2.2 σ) (some (.int r.1)) (mw k.2.2.2 r.2) := by
  refine MC_of (cc := cX9_seen) (maxL := 5) (ret := (some .int)) (own := RX9) (lvs := [(0, .ref (k.2.2.2.1 0)), (1, .int x1), (2, .int x2)]) (by decide) rfl rfl (Nat.le_of_ble_eq_true rfl) rfl (fun X E => ?_)
  unfold fX9_seen at hf
  refine g_aload_n E 0 dX9_seen_0 rfl rfl ?_
  refine g_iload_n E 1 dX9_seen_1 rfl rfl ?_
  obtain ⟨q1, hq2, hf⟩ := gb hf
  refine g_callV (C := RX9) (T := TX9) (N := 20) (ci := 9) (As := [.int x1]) (rest := []) (n := 1) E 0 (fX9_isPaper_c k σ x1 q1 hq2) gX9_seen_X9_isPaper rfl rfl rfl (by decide +kernel) ⟨Nat.le_of_ble_eq_true rfl, Nat.le_of_ble_eq_true rfl⟩ rfl rfl (Nat.le_of_ble_eq_true rfl) rfl (mwG0 _ _) dX9_seen_2 ?_
  refine g_if_ne (tgt := 10) E dX9_seen_5 (by decide) (fun c3 => ?_) (fun c3 => ?_)
  · have hf := gn hf c3
    refine g_iload_n E 2 dX9_seen_10 rfl rfl ?_
    refine g_i2l E dX9_seen_11 ?_
    refine g_lconst (v := (0 : Int64)) E dX9_seen_12 (by decide) ?_
    refine g_lconst (v := (1 : Int64)) E dX9_seen_13 (by decide) ?_
    obtain ⟨q4, hq5, hf⟩ := gb hf
    refine g_callS (As := [.long x2.toInt64, .long (0 : Int64), .long (1 : Int64)]) (rest := []) (n := 3) E (fX9_in_c k q1.2 x2.toInt64 (0 : Int64) (1 : Int64) q4 hq5) gX9_seen_X9_in rfl rfl rfl (by decide +kernel) ⟨Nat.le_of_ble_eq_true rfl, Nat.le_of_ble_eq_true rfl⟩ rfl rfl (Nat.le_of_ble_eq_true rfl) dX9_seen_14 ?_
    refine g_if_ne (tgt := 23) E dX9_seen_17 (by decide) (fun c6 => ?_) (fun c6 => ?_)
    · have hf := gn hf c6
      refine g_iconst (v := (0 : Int32)) E dX9_seen_23 (by decide) ?_
      refine g_istore_n E [(3, .int (0 : Int32)), (0, .ref (k.2.2.2.1 0)), (1, .int x1), (2, .int x2)] dX9_seen_24 rfl (by decide) rfl ?_
      refine g_iconst (v := (0 : Int32)) E dX9_seen_25 (by decide) ?_
      refine g_istore E [(4, .int (0 : Int32)), (3, .int (0 : Int32)), (0, .ref (k.2.2.2.1 0)), (1, .int x1), (2, .int x2)] dX9_seen_26 (by decide) rfl ?_
      exact g_sub [2, 3, 4, 1, 0] rfl (fX9_seen_v28 E gF q4.2 x1 x2 (0 : Int32) (0 : Int32) r hf)
    · have hf := gp hf c6
      refine g_bipush (v := (-2 : Int32)) E dX9_seen_20 (by decide) ?_
      cases hf
      exact g_iret E dX9_seen_22
  · have hf := gp hf c3
    refine g_iconst (v := (-1 : Int32)) E dX9_seen_8 (by decide) ?_
    cases hf
    exact g_iret E dX9_seen_9
theorem hi_X9_bid_X9 : ∀ w ∈ wsX90, w ∈ wsX9_bid := by decide +kernel
theorem hk_X9_bid_37 : Cond.fieldLink RX9 37 "PaperMarksModel" "bids" "[I" ∈ wsX9_bid := by decide +kernel
def rm_fX9_bid : Room := { frames := 2, cells := 0, slots := 0, locals := 46 }
set_option maxHeartbeats 4000000 in
set_option maxRecDepth 100000 in
theorem fX9_bid_c (k : gK) (σ : St) (x1 : Int32) (x2 : Int32) (x3 : Int32) (r : Int32 × St) (hf : fX9_bid σ x1 x2 x3 = some r) : MC k yX9_bid wsX9_bid rm_fX9_bid [.ref (k.2.2.2.1 0), .int x1, .int x2, .int x3] (mw k.2.2.2 σ) (some (.int r.1)) (mw k.2.2.2 r.2) := by
  refine MC_of (cc := cX9_bid) (maxL := 5) (ret := (some .int)) (own := RX9) (lvs := [(0, .ref (k.2.2.2.1 0)), (1, .int x1), (2, .int x2), (3, .int x3)]) (by decide) rfl rfl (Nat.le_of_ble_eq_true rfl) rfl (fun X E => ?_)
  unfold fX9_bid at hf
  refine g_aload_n E 0 dX9_bid_0 rfl rfl ?_
  refine g_iload_n E 1 dX9_bid_1 rfl rfl ?_
  obtain ⟨q1, hq2, hf⟩ := gb hf
  refine g_callV (C := RX9) (T := TX9) (N := 20) (ci := 9) (As := [.int x1]) (rest := []) (n := 1) E 0 (fX9_isJudge_c k σ x1 q1 hq2) gX9_bid_X9_isJudge rfl rfl rfl (by decide +kernel) ⟨Nat.le_of_ble_eq_true rfl, Nat.le_of_ble_eq_true rfl⟩ rfl rfl (Nat.le_of_ble_eq_true rfl) rfl (mwG0 _ _) dX9_bid_2 ?_
  refine g_if_eq (tgt := 16) E dX9_bid_5 (by decide) (fun c3 => ?_) (fun c3 => ?_)
  · have hf := gp hf c3
    refine g_iconst (v := (-1 : Int32)) E dX9_bid_16 (by decide) ?_
    cases hf
    exact g_iret E dX9_bid_17
  · have hf := gn hf c3
    refine g_aload_n E 0 dX9_bid_8 rfl rfl ?_
    refine g_iload_n E 2 dX9_bid_9 rfl rfl ?_
    obtain ⟨q4, hq5, hf⟩ := gb hf
    refine g_callV (C := RX9) (T := TX9) (N := 20) (ci := 9) (As := [.int x2]) (rest := []) (n := 1) E 0 (fX9_isPaper_c k q1.2 x2 q4 hq5) gX9_bid_X9_isPaper rfl rfl rfl (by decide +kernel) ⟨Nat.le_of_ble_eq_true rfl, Nat.le_of_ble_eq_true rfl⟩ rfl rfl (Nat.le_of_ble_eq_true rfl) rfl (mwG0 _ _) dX9_bid_10 ?_
    refine g_if_ne (tgt := 18) E dX9_bid_13 (by decide) (fun c6 => ?_) (fun c6 => ?_)
    · have hf := gn hf c6
      refine g_iload_n E 3 dX9_bid_18 rfl rfl ?_
      refine g_i2l E dX9_bid_19 ?_
      refine g_lconst (v := (0 : Int64)) E dX9_bid_20 (by decide) ?_
      refine g_ldc2 (v := (3 : Int64)) E (by decide +kernel) dX9_bid_21 ?_
      obtain ⟨q7, hq8, hf⟩ := gb hf
      refine g_callS (As := [.long x3.toInt64, .long (0 : Int64), .long (3 : Int64)]) (rest := []) (n := 3) E (fX9_in_c k q4.2 x3.toInt64 (0 : Int64) (3 : Int64) q7 hq8) gX9_bid_X9_in rfl rfl rfl (by decide +kernel) ⟨Nat.le_of_ble_eq_true rfl, Nat.le_of_ble_eq_true rfl⟩ rfl rfl (Nat.le_of_ble_eq_true rfl) dX9_bid_24 ?_
      refine g_if_ne (tgt := 33) E dX9_bid_27 (by decide) (fun c9 => ?_) (fun c9 => ?_)
      · have hf := gn hf c9
        refine g_aload_n E 0 dX9_bid_33 rfl rfl ?_
        refine g_get (C := RX9) (T := TX9) (N := 20) (ci := 9) E 0 11 (.ref (k.2.2.2.1 10)) hi_X9_bid_X9 (mwG0 _ _) rfl (by decide) hk_X9_bid_37 rfl dX9_bid_34 ?_
        refine g_iload_n E 1 dX9_bid_37 rfl rfl ?_
        refine g_iload_n E 2 dX9_bid_38 rfl rfl ?_
        obtain ⟨q10, hq11, hf⟩ := gb hf
        refine g_callS (As := [.int x1, .int x2]) (rest := [.ref (k.2.2.2.1 10)]) (n := 2) E (fX9_at_c k q7.2 x1 x2 q10 hq11) gX9_bid_X9_at rfl rfl rfl (by decide +kernel) ⟨Nat.le_of_ble_eq_true rfl, Nat.le_of_ble_eq_true rfl⟩ rfl rfl (Nat.le_of_ble_eq_true rfl) dX9_bid_39 ?_
        obtain ⟨hi12, hf⟩ := gd hf
        refine g_iald E 10 (q10.2.1 10) (mwG10 _ _) hi12 dX9_bid_42 ?_
        refine g_istore E [(4, .int (q10.2.1 10 q10.1.toNatClampNeg)), (0, .ref (k.2.2.2.1 0)), (1, .int x1), (2, .int x2), (3, .int x3)] dX9_bid_43 (by decide) rfl ?_
        refine g_aload_n E 1 dX9_bid_45 rfl rfl ?_
        refine g_get (C := RX9) (T := TX9) (N := 20) (ci := 9) E 0 11 (.ref (k.2.2.2.1 10)) hi_X9_bid_X9 (mwG0 _ _) rfl (by decide) hk_X9_bid_37 rfl dX9_bid_46 ?_
        refine g_iload_n E 2 dX9_bid_49 rfl rfl ?_
        refine g_iload_n E 3 dX9_bid_50 rfl rfl ?_
        obtain ⟨q13, hq14, hf⟩ := gb hf
        refine g_callS (As := [.int x1, .int x2]) (rest := [.ref (k.2.2.2.1 10)]) (n := 2) E (fX9_at_c k q10.2 x1 x2 q13 hq14) gX9_bid_X9_at rfl rfl rfl (by decide +kernel) ⟨Nat.le_of_ble_eq_true rfl, Nat.le_of_ble_eq_true rfl⟩ rfl rfl (Nat.le_of_ble_eq_true rfl) dX9_bid_51 ?_
        refine g_iload_n E 4 dX9_bid_54 rfl rfl ?_
        obtain ⟨hi15, hf⟩ := gd hf
        refine g_iast E 10 (mw k.2.2.2 (uA q13.2 10 q13.1.toNatClampNeg x3)) (q13.2.1 10) (mwG10 _ _) hi15 (mwA10 _ _ _ _) dX9_bid_55 ?_
        refine g_iload E 0 dX9_bid_56 rfl ?_
        cases hf
        exact g_iret E dX9_bid_58
      · have hf := gp hf c9
        refine g_bipush (v := (-2 : Int32)) E dX9_bid_30 (by decide) ?_
        cases hf
        exact g_iret E dX9_bid_32
    · have hf := gp hf c6
      refine g_iconst (v := (-1 : Int32)) E dX9_bid_16 (by decide) ?_
      cases hf
      exact g_iret E dX9_bid_17
theorem hi_X9_bidsOf_X9 : ∀ w ∈ wsX90, w ∈ wsX9_bidsOf := by decide +kernel
theorem hk_X9_bidsOf_63 : Cond.fieldLink RX9 63 "PaperMarksModel" "judges" "I" ∈ wsX9_bidsOf := by decide +kernel
theorem hk_X9_bidsOf_37 : Cond.fieldLink RX9 37 "PaperMarksModel" "bids" "[I" ∈ wsX9_bidsOf := by decide +kernel
def rm_fX9_bidsOf : Room := { frames := 1, cells := 0, slots := 0, locals := 21 }
set_option maxHeartbeats 4000000 in
set_option maxRecDepth 100000 in
theorem fX9_bidsOf_w40 {k : gK} {X : gX} (E : gE k X cX9_bidsOf RX9 wsX9_bidsOf 5 (some .int) rm_fX9_bidsOf) (rc5 : St → Int32 → Int32 → Int32 → Int32 → Option (Int32 × St)) (hrc5 : ∀ (σ : St) (x1 : Int32) (x2 : Int32) (x3 : Int32) (x4 : Int32) (r : Int32 × St), rc5 σ x1 x2 x3 x4 = some r → G k X 5 (some (.int r.1)) (mw k.2.2.2 r.2) (mw k.2.2.2 σ) [(0, .ref (k.2.2.2.1 0)), (1, .int x1), (2, .int x2), (3, .int x3), (4, .int x4)] [] 5) (σ : St) (x1 : Int32) (x2 : Int32) (x4 : Int32) (t0 : Int32) (t1 : Int32) (r : Int32 × St) (hf : fX9_bidsOf_b40 rc5 σ x1 x2 x4 t0 t1 = some r) : G k X 5 (some (.int r.1)) (mw k.2.2.2 r.2) (mw k.2.2.2 σ) [(0, .ref (k.2.2.2.1 0)), (1, .int x1), (2, .int x2), (4, .int x4)] [.int t1, .int t0] 40 := by
  unfold fX9_bidsOf_b40 at hf
  refine g_iadd E dX9_bidsOf_40 ?_
  refine g_istore_n E [(3, .int (t0 + t1)), (0, .ref (k.2.2.2.1 0)), (1, .int x1), (2, .int x2), (4, .int x4)] dX9_bidsOf_41 rfl (by decide) rfl ?_
  refine g_iinc E 4 [(4, .int (x4 + (1 : Int32))), (3, .int (t0 + t1)), (0, .ref (k.2.2.2.1 0)), (1, .int x1), (2, .int x2)] (x4 + (1 : Int32)) dX9_bidsOf_42 rfl (by rfl) (by decide) rfl ?_
  refine g_goto (tgt := 5) E dX9_bidsOf_45 (by decide) ?_
  exact g_sub [2, 3, 4, 1, 0] rfl (hrc5 σ x1 x2 (t0 + t1) (x4 + (1 : Int32)) r hf)
set_option maxHeartbeats 4000000 in
set_option maxRecDepth 100000 in
theorem fX9_bidsOf_w5 {k : gK} {X : gX} (E : gE k X cX9_bidsOf RX9 wsX9_bidsOf 5 (some .int) rm_fX9_bidsOf) (rc5 : St → Int32 → Int32 → Int32 → Int32 → Option (Int32 × St)) (hrc5 : ∀ (σ : St) (x1 : Int32) (x2 : Int32) (x3 : Int32) (x4 : Int32) (r : Int32 × St), rc5 σ x1 x2 x3 x4 = some r → G k X 5 (some (.int r.1)) (mw k.2.2.2 r.2) (mw k.2.2.2 σ) [(0, .ref (k.2.2.2.1 0)), (1, .int x1), (2, .int x2), (3, .int x3), (4, .int x4)] [] 5) (σ : St) (x1 : Int32) (x2 : Int32) (x3 : Int32) (x4 : Int32) (r : Int32 × St) (hf : fX9_bidsOf_b5 rc5 σ x1 x2 x3 x4 = some r) : G k X 5 (some (.int r.1)) (mw k.2.2.2 r.2) (mw k.2.2.2 σ) [(0, .ref (k.2.2.2.1 0)), (1, .int x1), (2, .int x2), (3, .int x3), (4, .int x4)] [] 5 := by
  unfold fX9_bidsOf_b5 at hf
  refine g_iload E 4 dX9_bidsOf_5 rfl ?_
  refine g_aload_n E 0 dX9_bidsOf_7 rfl rfl ?_
  refine g_get (C := RX9) (T := TX9) (N := 20) (ci := 9) E 0 3 (.int (σ.2.1 0)) hi_X9_bidsOf_X9 (mwG0 _ _) rfl (by decide) hk_X9_bidsOf_63 rfl dX9_bidsOf_8 ?_
  refine g_icmp_ge (tgt := 48) E dX9_bidsOf_11 (by decide) (fun c1 => ?_) (fun c1 => ?_)
  · have hf := gp hf c1
    refine g_iload_n E 3 dX9_bidsOf_48 rfl rfl ?_
    cases hf
    exact g_iret E dX9_bidsOf_49
  · have hf := gn hf c1
    refine g_iload_n E 3 dX9_bidsOf_14 rfl rfl ?_
    refine g_iload_n E 2 dX9_bidsOf_15 rfl rfl ?_
    refine g_iload E 4 dX9_bidsOf_16 rfl ?_
    refine g_ishr E dX9_bidsOf_18 ?_
    refine g_iconst (v := (1 : Int32)) E dX9_bidsOf_19 (by decide) ?_
    refine g_iand E dX9_bidsOf_20 ?_
    refine g_iconst (v := (1 : Int32)) E dX9_bidsOf_21 (by decide) ?_
    refine g_icmp_ne (tgt := 39) E dX9_bidsOf_22 (by decide) (fun c2 => ?_) (fun c2 => ?_)
    · have hf := gn hf c2
      refine g_iconst (v := (0 : Int32)) E dX9_bidsOf_39 (by decide) ?_
      exact g_sub [0, 1, 2, 4] rfl (fX9_bidsOf_w40 E rc5 hrc5 σ x1 x2 x4 x3 (0 : Int32) r hf)
    · have hf := gp hf c2
      refine g_aload_n E 0 dX9_bidsOf_25 rfl rfl ?_
      refine g_get (C := RX9) (T := TX9) (N := 20) (ci := 9) E 0 11 (.ref (k.2.2.2.1 10)) hi_X9_bidsOf_X9 (mwG0 _ _) rfl (by decide) hk_X9_bidsOf_37 rfl dX9_bidsOf_26 ?_
      refine g_iload E 4 dX9_bidsOf_29 rfl ?_
      refine g_iload_n E 1 dX9_bidsOf_31 rfl rfl ?_
      obtain ⟨q3, hq4, hf⟩ := gb hf
      refine g_callS (As := [.int x4, .int x1]) (rest := [.ref (k.2.2.2.1 10), .int x3]) (n := 2) E (fX9_at_c k σ x4 x1 q3 hq4) gX9_bidsOf_X9_at rfl rfl rfl (by decide +kernel) ⟨Nat.le_of_ble_eq_true rfl, Nat.le_of_ble_eq_true rfl⟩ rfl rfl (Nat.le_of_ble_eq_true rfl) dX9_bidsOf_32 ?_
      obtain ⟨hi5, hf⟩ := gd hf
      refine g_iald E 10 (q3.2.1 10) (mwG10 _ _) hi5 dX9_bidsOf_35 ?_
      refine g_goto (tgt := 40) E dX9_bidsOf_36 (by decide) ?_
      exact g_sub [0, 1, 2, 4] rfl (fX9_bidsOf_w40 E rc5 hrc5 q3.2 x1 x2 x4 x3 (q3.2.1 10 q3.1.toNatClampNeg) r hf)
theorem fX9_bidsOf_v5 {k : gK} {X : gX} (E : gE k X cX9_bidsOf RX9 wsX9_bidsOf 5 (some .int) rm_fX9_bidsOf) : ∀ (n : Nat) (σ : St) (x1 : Int32) (x2 : Int32) (x3 : Int32) (x4 : Int32) (r : Int32 × St), fX9_bidsOf_l5 n σ x1 x2 x3 x4 = some r → G k X 5 (some (.int r.1)) (mw k.2.2.2 r.2) (mw k.2.2.2 σ) [(0, .ref (k.2.2.2.1 0)), (1, .int x1), (2, .int x2), (3, .int x3), (4, .int x4)] [] 5 := by
  intro n
  induction n with
  | zero => intro σ x1 x2 x3 x4 r hf; cases hf
  | succ n ih => intro σ x1 x2 x3 x4 r hf; exact fX9_bidsOf_w5 E (fX9_bidsOf_l5 n) ih σ x1 x2 x3 x4 r hf
set_option maxHeartbeats 4000000 in
set_option maxRecDepth 100000 in
theorem fX9_bidsOf_c (k : gK) (σ : St) (x1 : Int32) (x2 : Int32) (r : Int32 × St) (hf : fX9_bidsOf σ x1 x2 = some r) : MC k yX9_bidsOf wsX9_bidsOf rm_fX9_bidsOf [.ref (k.2.2.2.1 0), .int x1, .int x2] (mw k.2.2.2 σ) (some (.int r.1)) (mw k.2.2.2 r.2) := by
  refine MC_of (cc := cX9_bidsOf) (maxL := 5) (ret := (some .int)) (own := RX9) (lvs := [(0, .ref (k.2.2.2.1 0)), (1, .int x1), (2, .int x2)]) (by decide) rfl rfl (Nat.le_of_ble_eq_true rfl) rfl (fun X E => ?_)
  unfold fX9_bidsOf at hf
  refine g_iconst (v := (0 : Int32)) E dX9_bidsOf_0 (by decide) ?_
  refine g_istore_n E [(3, .int (0 : Int32)), (0, .ref (k.2.2.2.1 0)), (1, .int x1), (2, .int x2)] dX9_bidsOf_1 rfl (by decide) rfl ?_
  refine g_iconst (v := (0 : Int32)) E dX9_bidsOf_2 (by decide) ?_
  refine g_istore E [(4, .int (0 : Int32)), (3, .int (0 : Int32)), (0, .ref (k.2.2.2.1 0)), (1, .int x1), (2, .int x2)] dX9_bidsOf_3 (by decide) rfl ?_
  exact g_sub [2, 3, 4, 1, 0] rfl (fX9_bidsOf_v5 E gF σ x1 x2 (0 : Int32) (0 : Int32) r hf)
theorem hi_X9_isFit_X9 : ∀ w ∈ wsX90, w ∈ wsX9_isFit := by decide +kernel
theorem hk_X9_isFit_63 : Cond.fieldLink RX9 63 "PaperMarksModel" "judges" "I" ∈ wsX9_isFit := by decide +kernel
def rm_fX9_isFit : Room := { frames := 1, cells := 0, slots := 0, locals := 22 }
set_option maxHeartbeats 4000000 in
set_option maxRecDepth 100000 in
theorem fX9_isFit_w66 {k : gK} {X : gX} (E : gE k X cX9_isFit RX9 wsX9_isFit 6 (some .boolean) rm_fX9_isFit) (rc28 : St → Int32 → Int32 → Int32 → Int32 → Option (Int32 × St)) (hrc28 : ∀ (σ : St) (x1 : Int32) (x2 : Int32) (x4 : Int32) (x5 : Int32) (r : Int32 × St), rc28 σ x1 x2 x4 x5 = some r → G k X 6 (some (.int r.1)) (mw k.2.2.2 r.2) (mw k.2.2.2 σ) [(0, .ref (k.2.2.2.1 0)), (1, .int x1), (2, .int x2), (4, .int x4), (5, .int x5)] [] 28) (σ : St) (x1 : Int32) (x2 : Int32) (x5 : Int32) (t0 : Int32) (r : Int32 × St) (hf : fX9_isFit_b66 rc28 σ x1 x2 x5 t0 = some r) : G k X 6 (some (.int r.1)) (mw k.2.2.2 r.2) (mw k.2.2.2 σ) [(0, .ref (k.2.2.2.1 0)), (1, .int x1), (2, .int x2), (5, .int x5)] [.int t0] 66 := by
  unfold fX9_isFit_b66 at hf
  refine g_istore E [(4, .int t0), (0, .ref (k.2.2.2.1 0)), (1, .int x1), (2, .int x2), (5, .int x5)] dX9_isFit_66 (by decide) rfl ?_
  refine g_iinc E 4 [(5, .int (x5 + (1 : Int32))), (4, .int t0), (0, .ref (k.2.2.2.1 0)), (1, .int x1), (2, .int x2)] (x5 + (1 : Int32)) dX9_isFit_68 rfl (by rfl) (by decide) rfl ?_
  refine g_goto (tgt := 28) E dX9_isFit_71 (by decide) ?_
  exact g_sub [2, 3, 4, 1, 0] rfl (hrc28 σ x1 x2 t0 (x5 + (1 : Int32)) r hf)
set_option maxHeartbeats 4000000 in
set_option maxRecDepth 100000 in
theorem fX9_isFit_w65 {k : gK} {X : gX} (E : gE k X cX9_isFit RX9 wsX9_isFit 6 (some .boolean) rm_fX9_isFit) (rc28 : St → Int32 → Int32 → Int32 → Int32 → Option (Int32 × St)) (hrc28 : ∀ (σ : St) (x1 : Int32) (x2 : Int32) (x4 : Int32) (x5 : Int32) (r : Int32 × St), rc28 σ x1 x2 x4 x5 = some r → G k X 6 (some (.int r.1)) (mw k.2.2.2 r.2) (mw k.2.2.2 σ) [(0, .ref (k.2.2.2.1 0)), (1, .int x1), (2, .int x2), (4, .int x4), (5, .int x5)] [] 28) (σ : St) (x1 : Int32) (x2 : Int32) (x5 : Int32) (r : Int32 × St) (hf : fX9_isFit_b65 rc28 σ x1 x2 x5 = some r) : G k X 6 (some (.int r.1)) (mw k.2.2.2 r.2) (mw k.2.2.2 σ) [(0, .ref (k.2.2.2.1 0)), (1, .int x1), (2, .int x2), (5, .int x5)] [] 65 := by
  unfold fX9_isFit_b65 at hf
  refine g_iconst (v := (0 : Int32)) E dX9_isFit_65 (by decide) ?_
  exact fX9_isFit_w66 E rc28 hrc28 σ x1 x2 x5 (0 : Int32) r hf
set_option maxHeartbeats 4000000 in
set_option maxRecDepth 100000 in
theorem fX9_isFit_w61 {k : gK} {X : gX} (E : gE k X cX9_isFit RX9 wsX9_isFit 6 (some .boolean) rm_fX9_isFit) (rc28 : St → Int32 → Int32 → Int32 → Int32 → Option (Int32 × St)) (hrc28 : ∀ (σ : St) (x1 : Int32) (x2 : Int32) (x4 : Int32) (x5 : Int32) (r : Int32 × St), rc28 σ x1 x2 x4 x5 = some r → G k X 6 (some (.int r.1)) (mw k.2.2.2 r.2) (mw k.2.2.2 σ) [(0, .ref (k.2.2.2.1 0)), (1, .int x1), (2, .int x2), (4, .int x4), (5, .int x5)] [] 28) (σ : St) (x1 : Int32) (x2 : Int32) (x5 : Int32) (r : Int32 × St) (hf : fX9_isFit_b61 rc28 σ x1 x2 x5 = some r) : G k X 6 (some (.int r.1)) (mw k.2.2.2 r.2) (mw k.2.2.2 σ) [(0, .ref (k.2.2.2.1 0)), (1, .int x1), (2, .int x2), (5, .int x5)] [] 61 := by
  unfold fX9_isFit_b61 at hf
  refine g_iconst (v := (1 : Int32)) E dX9_isFit_61 (by decide) ?_
  refine g_goto (tgt := 66) E dX9_isFit_62 (by decide) ?_
  exact fX9_isFit_w66 E rc28 hrc28 σ x1 x2 x5 (1 : Int32) r hf
set_option maxHeartbeats 4000000 in
set_option maxRecDepth 100000 in
theorem fX9_isFit_w28 {k : gK} {X : gX} (E : gE k X cX9_isFit RX9 wsX9_isFit 6 (some .boolean) rm_fX9_isFit) (rc28 : St → Int32 → Int32 → Int32 → Int32 → Option (Int32 × St)) (hrc28 : ∀ (σ : St) (x1 : Int32) (x2 : Int32) (x4 : Int32) (x5 : Int32) (r : Int32 × St), rc28 σ x1 x2 x4 x5 = some r → G k X 6 (some (.int r.1)) (mw k.2.2.2 r.2) (mw k.2.2.2 σ) [(0, .ref (k.2.2.2.1 0)), (1, .int x1), (2, .int x2), (4, .int x4), (5, .int x5)] [] 28) (σ : St) (x1 : Int32) (x2 : Int32) (x4 : Int32) (x5 : Int32) (r : Int32 × St) (hf : fX9_isFit_b28 rc28 σ x1 x2 x4 x5 = some r) : G k X 6 (some (.int r.1)) (mw k.2.2.2 r.2) (mw k.2.2.2 σ) [(0, .ref (k.2.2.2.1 0)), (1, .int x1), (2, .int x2), (4, .int x4), (5, .int x5)] [] 28 := by
  unfold fX9_isFit_b28 at hf
  refine g_iload E 4 dX9_isFit_28 rfl ?_
  refine g_aload_n E 0 dX9_isFit_30 rfl rfl ?_
  refine g_get (C := RX9) (T := TX9) (N := 20) (ci := 9) E 0 3 (.int (σ.2.1 0)) hi_X9_isFit_X9 (mwG0 _ _) rfl (by decide) hk_X9_isFit_63 rfl dX9_isFit_31 ?_
  refine g_icmp_ge (tgt := 74) E dX9_isFit_34 (by decide) (fun c1 => ?_) (fun c1 => ?_)
  · have hf := gp hf c1
    refine g_iload E 3 dX9_isFit_74 rfl ?_
    obtain ⟨hv2, hf⟩ := gd hf
    cases hf
    exact g_zret E hv2 dX9_isFit_76
  · have hf := gn hf c1
    refine g_iload E 3 dX9_isFit_37 rfl ?_
    refine g_if_eq (tgt := 65) E dX9_isFit_39 (by decide) (fun c3 => ?_) (fun c3 => ?_)
    · have hf := gp hf c3
      exact g_sub [0, 1, 2, 4] rfl (fX9_isFit_w65 E rc28 hrc28 σ x1 x2 x5 r hf)
    · have hf := gn hf c3
      refine g_iload_n E 2 dX9_isFit_42 rfl rfl ?_
      refine g_iload E 4 dX9_isFit_43 rfl ?_
      refine g_ishr E dX9_isFit_45 ?_
      refine g_iconst (v := (1 : Int32)) E dX9_isFit_46 (by decide) ?_
      refine g_iand E dX9_isFit_47 ?_
      refine g_if_eq (tgt := 61) E dX9_isFit_48 (by decide) (fun c4 => ?_) (fun c4 => ?_)
      · have hf := gp hf c4
        exact g_sub [0, 1, 2, 4] rfl (fX9_isFit_w61 E rc28 hrc28 σ x1 x2 x5 r hf)
      · have hf := gn hf c4
        refine g_aload_n E 0 dX9_isFit_51 rfl rfl ?_
        refine g_iload E 4 dX9_isFit_52 rfl ?_
        refine g_iload_n E 1 dX9_isFit_54 rfl rfl ?_
        obtain ⟨q5, hq6, hf⟩ := gb hf
        refine g_callV (C := RX9) (T := TX9) (N := 20) (ci := 9) (As := [.int x5, .int x1]) (rest := []) (n := 2) E 0 (fX9_tieWith_c k σ x5 x1 q5 hq6) gX9_isFit_X9_tieWith rfl rfl rfl (by decide +kernel) ⟨Nat.le_of_ble_eq_true rfl, Nat.le_of_ble_eq_true rfl⟩ rfl rfl (Nat.le_of_ble_eq_true rfl) rfl (mwG0 _ _) dX9_isFit_55 ?_
        refine g_if_lt (tgt := 65) E dX9_isFit_58 (by decide) (fun c7 => ?_) (fun c7 => ?_)
        · have hf := gp hf c7
          exact g_sub [0, 1, 2, 4] rfl (fX9_isFit_w65 E rc28 hrc28 q5.2 x1 x2 x5 r hf)
        · have hf := gn hf c7
          exact g_sub [0, 1, 2, 4] rfl (fX9_isFit_w61 E rc28 hrc28 q5.2 x1 x2 x5 r hf)
theorem fX9_isFit_v28 {k : gK} {X : gX} (E : gE k X cX9_isFit RX9 wsX9_isFit 6 (some .boolean) rm_fX9_isFit) : ∀ (n : Nat) (σ : St) (x1 : Int32) (x2 : Int32) (x4 : Int32) (x5 : Int32) (r : Int32 × St), fX9_isFit_l28 n σ x1 x2 x4 x5 = some r → G k X 6 (some (.int r.1)) (mw k.2.2.2 r.2) (mw k.2.2.2 σ) [(0, .ref (k.2.2.2.1 0)), (1, .int x1), (2, .int x2), (4, .int x4), (5, .int x5)] [] 28 := by
  intro n
  induction n with
  | zero => intro σ x1 x2 x4 x5 r hf; cases hf
  | succ n ih => intro σ x1 x2 x4 x5 r hf; exact fX9_isFit_w28 E (fX9_isFit_l28 n) ih σ x1 x2 x4 x5 r hf
set_option maxHeartbeats 4000000 in
set_option maxRecDepth 100000 in
theorem fX9_isFit_w23 {k : gK} {X : gX} (E : gE k X cX9_isFit RX9 wsX9_isFit 6 (some .boolean) rm_fX9_isFit) (σ : St) (x1 : Int32) (x2 : Int32) (t0 : Int32) (r : Int32 × St) (hf : fX9_isFit_b23 σ x1 x2 t0 = some r) : G k X 6 (some (.int r.1)) (mw k.2.2.2 r.2) (mw k.2.2.2 σ) [(0, .ref (k.2.2.2.1 0)), (1, .int x1), (2, .int x2)] [.int t0] 23 := by
  unfold fX9_isFit_b23 at hf
  refine g_istore E [(4, .int t0), (0, .ref (k.2.2.2.1 0)), (1, .int x1), (2, .int x2)] dX9_isFit_23 (by decide) rfl ?_
  refine g_iconst (v := (0 : Int32)) E dX9_isFit_25 (by decide) ?_
  refine g_istore E [(5, .int (0 : Int32)), (4, .int t0), (0, .ref (k.2.2.2.1 0)), (1, .int x1), (2, .int x2)] dX9_isFit_26 (by decide) rfl ?_
  exact g_sub [2, 3, 4, 1, 0] rfl (fX9_isFit_v28 E gF σ x1 x2 t0 (0 : Int32) r hf)
set_option maxHeartbeats 4000000 in
set_option maxRecDepth 100000 in
theorem fX9_isFit_w22 {k : gK} {X : gX} (E : gE k X cX9_isFit RX9 wsX9_isFit 6 (some .boolean) rm_fX9_isFit) (σ : St) (x1 : Int32) (x2 : Int32) (r : Int32 × St) (hf : fX9_isFit_b22 σ x1 x2 = some r) : G k X 6 (some (.int r.1)) (mw k.2.2.2 r.2) (mw k.2.2.2 σ) [(0, .ref (k.2.2.2.1 0)), (1, .int x1), (2, .int x2)] [] 22 := by
  unfold fX9_isFit_b22 at hf
  refine g_iconst (v := (0 : Int32)) E dX9_isFit_22 (by decide) ?_
  exact fX9_isFit_w23 E σ x1 x2 (0 : Int32) r hf
set_option maxHeartbeats 4000000 in
set_option maxRecDepth 100000 in
theorem fX9_isFit_c (k : gK) (σ : St) (x1 : Int32) (x2 : Int32) (x3 : Int32) (r : Int32 × St) (hf : fX9_isFit σ x1 x2 x3 = some r) : MC k yX9_isFit wsX9_isFit rm_fX9_isFit [.ref (k.2.2.2.1 0), .int x1, .int x2, .int x3] (mw k.2.2.2 σ) (some (.int r.1)) (mw k.2.2.2 r.2) := by
  refine MC_of (cc := cX9_isFit) (maxL := 6) (ret := (some .boolean)) (own := RX9) (lvs := [(0, .ref (k.2.2.2.1 0)), (1, .int x1), (2, .int x2), (3, .int x3)]) (by decide) rfl rfl (Nat.le_of_ble_eq_true rfl) rfl (fun X E => ?_)
  unfold fX9_isFit at hf
  refine g_iload_n E 2 dX9_isFit_0 rfl rfl ?_
  obtain ⟨q1, hq2, hf⟩ := gb hf
  refine g_callS (As := [.int x2]) (rest := []) (n := 1) E (fX9_ones_c k σ x2 q1 hq2) gX9_isFit_X9_ones rfl rfl rfl (by decide +kernel) ⟨Nat.le_of_ble_eq_true rfl, Nat.le_of_ble_eq_true rfl⟩ rfl rfl (Nat.le_of_ble_eq_true rfl) dX9_isFit_1 ?_
  refine g_iload_n E 3 dX9_isFit_4 rfl rfl ?_
  refine g_icmp_ne (tgt := 22) E dX9_isFit_5 (by decide) (fun c3 => ?_) (fun c3 => ?_)
  · have hf := gn hf c3
    exact g_sub [0, 1, 2] rfl (fX9_isFit_w22 E q1.2 x1 x2 r hf)
  · have hf := gp hf c3
    refine g_aload_n E 0 dX9_isFit_8 rfl rfl ?_
    refine g_iload_n E 1 dX9_isFit_9 rfl rfl ?_
    refine g_iload_n E 2 dX9_isFit_10 rfl rfl ?_
    obtain ⟨q4, hq5, hf⟩ := gb hf
    refine g_callV (C := RX9) (T := TX9) (N := 20) (ci := 9) (As := [.int x1, .int x2]) (rest := []) (n := 2) E 0 (fX9_without_c k q1.2 x1 x2 q4 hq5) gX9_isFit_X9_without rfl rfl rfl (by decide +kernel) ⟨Nat.le_of_ble_eq_true rfl, Nat.le_of_ble_eq_true rfl⟩ rfl rfl (Nat.le_of_ble_eq_true rfl) rfl (mwG0 _ _) dX9_isFit_11 ?_
    refine g_iload_n E 2 dX9_isFit_14 rfl rfl ?_
    refine g_icmp_ne (tgt := 22) E dX9_isFit_15 (by decide) (fun c6 => ?_) (fun c6 => ?_)
    · have hf := gn hf c6
      exact g_sub [0, 1, 2] rfl (fX9_isFit_w22 E q4.2 x1 x2 r hf)
    · have hf := gp hf c6
      refine g_iconst (v := (1 : Int32)) E dX9_isFit_18 (by decide) ?_
      refine g_goto (tgt := 23) E dX9_isFit_19 (by decide) ?_
      exact g_sub [0, 1, 2] rfl (fX9_isFit_w23 E q4.2 x1 x2 (1 : Int32) r hf)
def rm_fX9_loadsBy : Room := { frames := 0, cells := 0, slots := 0, locals := 0 }
set_option maxHeartbeats 4000000 in
set_option maxRecDepth 100000 in
theorem fX9_loadsBy_w12 {k : gK} {X : gX} (E : gE k X cX9_loadsBy RX9 wsX9_loadsBy 9 (some .int) rm_fX9_loadsBy) (rc12 : St → Int32 → Int32 → Int32 → Int32 → Int32 → Int32 → Option (Int32 × St)) (hrc12 : ∀ (σ : St) (x2 : Int32) (x3 : Int32) (x4 : Int32) (x5 : Int32) (x6 : Int32) (x7 : Int32) (r : Int32 × St), rc12 σ x2 x3 x4 x5 x6 x7 = some r → G k X 9 (some (.int r.1)) (mw k.2.2.2 r.2) (mw k.2.2.2 σ) [(2, .int x2), (3, .int x3), (4, .int x4), (5, .int x5), (6, .int x6), (7, .int x7)] [] 12) (σ : St) (x2 : Int32) (x3 : Int32) (x4 : Int32) (x5 : Int32) (x6 : Int32) (x7 : Int32) (r : Int32 × St) (hf : fX9_loadsBy_b12 rc12 σ x2 x3 x4 x5 x6 x7 = some r) : G k X 9 (some (.int r.1)) (mw k.2.2.2 r.2) (mw k.2.2.2 σ) [(2, .int x2), (3, .int x3), (4, .int x4), (5, .int x5), (6, .int x6), (7, .int x7)] [] 12 := by
  unfold fX9_loadsBy_b12 at hf
  refine g_iload E 5 dX9_loadsBy_12 rfl ?_
  refine g_bipush (v := (6 : Int32)) E dX9_loadsBy_14 (by decide) ?_
  refine g_icmp_ge (tgt := 69) E dX9_loadsBy_16 (by decide) (fun c1 => ?_) (fun c1 => ?_)
  · have hf := gp hf c1
    refine g_iload E 4 dX9_loadsBy_69 rfl ?_
    cases hf
    exact g_iret E dX9_loadsBy_71
  · have hf := gn hf c1
    refine g_iload E 2 dX9_loadsBy_19 rfl ?_
    refine g_iconst (v := (5 : Int32)) E dX9_loadsBy_21 (by decide) ?_
    refine g_irem E (by decide) dX9_loadsBy_22 ?_
    refine g_iload_n E 0 dX9_loadsBy_23 rfl rfl ?_
    refine g_iload E 5 dX9_loadsBy_24 rfl ?_
    refine g_ishr E dX9_loadsBy_26 ?_
    refine g_iconst (v := (1 : Int32)) E dX9_loadsBy_27 (by decide) ?_
    refine g_iand E dX9_loadsBy_28 ?_
    refine g_iadd E dX9_loadsBy_29 ?_
    refine g_istore E [(8, .int (((x4 - x4 / (5 : Int32) * (5 : Int32))) + ((((x2 >>> (x7 &&& 31))) &&& (1 : Int32))))), (2, .int x2), (3, .int x3), (4, .int x4), (5, .int x5), (6, .int x6), (7, .int x7)] dX9_loadsBy_30 (by decide) rfl ?_
    refine g_iload E 0 dX9_loadsBy_32 rfl ?_
    refine g_iload_n E 2 dX9_loadsBy_34 rfl rfl ?_
    refine g_icmp_le (tgt := 41) E dX9_loadsBy_35 (by decide) (fun c2 => ?_) (fun c2 => ?_)
    · have hf := gp hf c2
      refine g_iload E 5 dX9_loadsBy_41 rfl ?_
      refine g_iload E 4 dX9_loadsBy_43 rfl ?_
      refine g_iload E 0 dX9_loadsBy_45 rfl ?_
      refine g_imul E dX9_loadsBy_47 ?_
      refine g_iadd E dX9_loadsBy_48 ?_
      refine g_istore E [(6, .int (x6 + ((x5 * ((((x4 - x4 / (5 : Int32) * (5 : Int32))) + ((((x2 >>> (x7 &&& 31))) &&& (1 : Int32))))))))), (8, .int (((x4 - x4 / (5 : Int32) * (5 : Int32))) + ((((x2 >>> (x7 &&& 31))) &&& (1 : Int32))))), (2, .int x2), (3, .int x3), (4, .int x4), (5, .int x5), (7, .int x7)] dX9_loadsBy_49 (by decide) rfl ?_
      refine g_iload E 5 dX9_loadsBy_51 rfl ?_
      refine g_iconst (v := (5 : Int32)) E dX9_loadsBy_53 (by decide) ?_
      refine g_imul E dX9_loadsBy_54 ?_
      refine g_istore E [(5, .int (x5 * (5 : Int32))), (6, .int (x6 + ((x5 * ((((x4 - x4 / (5 : Int32) * (5 : Int32))) + ((((x2 >>> (x7 &&& 31))) &&& (1 : Int32))))))))), (8, .int (((x4 - x4 / (5 : Int32) * (5 : Int32))) + ((((x2 >>> (x7 &&& 31))) &&& (1 : Int32))))), (2, .int x2), (3, .int x3), (4, .int x4), (7, .int x7)] dX9_loadsBy_55 (by decide) rfl ?_
      refine g_iload E 5 dX9_loadsBy_57 rfl ?_
      refine g_iconst (v := (5 : Int32)) E dX9_loadsBy_59 (by decide) ?_
      refine g_idiv E (by decide) dX9_loadsBy_60 ?_
      refine g_istore E [(4, .int (x4 / (5 : Int32))), (5, .int (x5 * (5 : Int32))), (6, .int (x6 + ((x5 * ((((x4 - x4 / (5 : Int32) * (5 : Int32))) + ((((x2 >>> (x7 &&& 31))) &&& (1 : Int32))))))))), (8, .int (((x4 - x4 / (5 : Int32) * (5 : Int32))) + ((((x2 >>> (x7 &&& 31))) &&& (1 : Int32))))), (2, .int x2), (3, .int x3), (7, .int x7)] dX9_loadsBy_61 (by decide) rfl ?_
      refine g_iinc E 6 [(7, .int (x7 + (1 : Int32))), (4, .int (x4 / (5 : Int32))), (5, .int (x5 * (5 : Int32))), (6, .int (x6 + ((x5 * ((((x4 - x4 / (5 : Int32) * (5 : Int32))) + ((((x2 >>> (x7 &&& 31))) &&& (1 : Int32))))))))), (8, .int (((x4 - x4 / (5 : Int32) * (5 : Int32))) + ((((x2 >>> (x7 &&& 31))) &&& (1 : Int32))))), (2, .int x2), (3, .int x3)] (x7 + (1 : Int32)) dX9_loadsBy_63 rfl (by rfl) (by decide) rfl ?_
      refine g_goto (tgt := 12) E dX9_loadsBy_66 (by decide) ?_
      exact g_sub [5, 6, 1, 2, 3, 0] rfl (hrc12 σ x2 x3 (x4 / (5 : Int32)) (x5 * (5 : Int32)) (x6 + ((x5 * ((((x4 - x4 / (5 : Int32) * (5 : Int32))) + ((((x2 >>> (x7 &&& 31))) &&& (1 : Int32)))))))) (x7 + (1 : Int32)) r hf)
    · have hf := gn hf c2
      refine g_bipush (v := (-6 : Int32)) E dX9_loadsBy_38 (by decide) ?_
      cases hf
      exact g_iret E dX9_loadsBy_40
theorem fX9_loadsBy_v12 {k : gK} {X : gX} (E : gE k X cX9_loadsBy RX9 wsX9_loadsBy 9 (some .int) rm_fX9_loadsBy) : ∀ (n : Nat) (σ : St) (x2 : Int32) (x3 : Int32) (x4 : Int32) (x5 : Int32) (x6 : Int32) (x7 : Int32) (r : Int32 × St), fX9_loadsBy_l12 n σ x2 x3 x4 x5 x6 x7 = some r → G k X 9 (some (.int r.1)) (mw k.2.2.2 r.2) (mw k.2.2.2 σ) [(2, .int x2), (3, .int x3), (4, .int x4), (5, .int x5), (6, .int x6), (7, .int x7)] [] 12 := by
  intro n
  induction n with
  | zero => intro σ x2 x3 x4 x5 x6 x7 r hf; cases hf
  | succ n ih => intro σ x2 x3 x4 x5 x6 x7 r hf; exact fX9_loadsBy_w12 E (fX9_loadsBy_l12 n) ih σ x2 x3 x4 x5 x6 x7 r hf
set_option maxHeartbeats 4000000 in
set_option maxRecDepth 100000 in
theorem fX9_loadsBy_c (k : gK) (σ : St) (x1 : Int32) (x2 : Int32) (x3 : Int32) (r : Int32 × St) (hf : fX9_loadsBy σ x1 x2 x3 = some r) : MC k yX9_loadsBy wsX9_loadsBy rm_fX9_loadsBy [.ref (k.2.2.2.1 0), .int x1, .int x2, .int x3] (mw k.2.2.2 σ) (some (.int r.1)) (mw k.2.2.2 r.2) := by
  refine MC_of (cc := cX9_loadsBy) (maxL := 9) (ret := (some .int)) (own := RX9) (lvs := [(0, .ref (k.2.2.2.1 0)), (1, .int x1), (2, .int x2), (3, .int x3)]) (by decide) rfl rfl (Nat.le_of_ble_eq_true rfl) rfl (fun X E => ?_)
  unfold fX9_loadsBy at hf
  refine g_iload_n E 1 dX9_loadsBy_0 rfl rfl ?_
  refine g_istore E [(4, .int x1), (0, .ref (k.2.2.2.1 0)), (1, .int x1), (2, .int x2), (3, .int x3)] dX9_loadsBy_1 (by decide) rfl ?_
  refine g_iconst (v := (1 : Int32)) E dX9_loadsBy_3 (by decide) ?_
  refine g_istore E [(5, .int (1 : Int32)), (4, .int x1), (0, .ref (k.2.2.2.1 0)), (1, .int x1), (2, .int x2), (3, .int x3)] dX9_loadsBy_4 (by decide) rfl ?_
  refine g_iconst (v := (0 : Int32)) E dX9_loadsBy_6 (by decide) ?_
  refine g_istore E [(6, .int (0 : Int32)), (5, .int (1 : Int32)), (4, .int x1), (0, .ref (k.2.2.2.1 0)), (1, .int x1), (2, .int x2), (3, .int x3)] dX9_loadsBy_7 (by decide) rfl ?_
  refine g_iconst (v := (0 : Int32)) E dX9_loadsBy_9 (by decide) ?_
  refine g_istore E [(7, .int (0 : Int32)), (6, .int (0 : Int32)), (5, .int (1 : Int32)), (4, .int x1), (0, .ref (k.2.2.2.1 0)), (1, .int x1), (2, .int x2), (3, .int x3)] dX9_loadsBy_10 (by decide) rfl ?_
  exact g_sub [6, 7, 3, 2, 1, 0] rfl (fX9_loadsBy_v12 E gF σ x2 x3 x1 (1 : Int32) (0 : Int32) (0 : Int32) r hf)
theorem hi_X9_bringsOf_X9 : ∀ w ∈ wsX90, w ∈ wsX9_bringsOf := by decide +kernel
theorem hk_X9_bringsOf_56 : Cond.fieldLink RX9 56 "PaperMarksModel" "mostFrom" "[I" ∈ wsX9_bringsOf := by decide +kernel
def rm_fX9_bringsOf : Room := { frames := 2, cells := 0, slots := 0, locals := 47 }
set_option maxHeartbeats 4000000 in
set_option maxRecDepth 100000 in
theorem fX9_bringsOf_w51 {k : gK} {X : gX} (E : gE k X cX9_bringsOf RX9 wsX9_bringsOf 8 (some .int) rm_fX9_bringsOf) (σ : St) (x1 : Int32) (x3 : Int32) (t0 : Int32) (r : Int32 × St) (hf : fX9_bringsOf_b51 σ x1 x3 t0 = some r) : G k X 8 (some (.int r.1)) (mw k.2.2.2 r.2) (mw k.2.2.2 σ) [(0, .ref (k.2.2.2.1 0)), (1, .int x1), (3, .int x3)] [.int t0] 51 := by
  unfold fX9_bringsOf_b51 at hf
  refine g_istore E [(7, .int t0), (0, .ref (k.2.2.2.1 0)), (1, .int x1), (3, .int x3)] dX9_bringsOf_51 (by decide) rfl ?_
  refine g_iload E 0 dX9_bringsOf_53 rfl ?_
  refine g_if_ge (tgt := 63) E dX9_bringsOf_55 (by decide) (fun c1 => ?_) (fun c1 => ?_)
  · have hf := gp hf c1
    refine g_iload E 0 dX9_bringsOf_63 rfl ?_
    refine g_aload_n E 1 dX9_bringsOf_65 rfl rfl ?_
    refine g_iload_n E 2 dX9_bringsOf_66 rfl rfl ?_
    refine g_iload_n E 3 dX9_bringsOf_67 rfl rfl ?_
    obtain ⟨q2, hq3, hf⟩ := gb hf
    refine g_callV (C := RX9) (T := TX9) (N := 20) (ci := 9) (As := [.int x1, .int x3]) (rest := [.int t0]) (n := 2) E 0 (fX9_bidsOf_c k σ x1 x3 q2 hq3) gX9_bringsOf_X9_bidsOf rfl rfl rfl (by decide +kernel) ⟨Nat.le_of_ble_eq_true rfl, Nat.le_of_ble_eq_true rfl⟩ rfl rfl (Nat.le_of_ble_eq_true rfl) rfl (mwG0 _ _) dX9_bringsOf_68 ?_
    refine g_iadd E dX9_bringsOf_71 ?_
    cases hf
    exact g_iret E dX9_bringsOf_72
  · have hf := gn hf c1
    refine g_bipush (v := (-6 : Int32)) E dX9_bringsOf_58 (by decide) ?_
    refine g_goto (tgt := 72) E dX9_bringsOf_60 (by decide) ?_
    cases hf
    exact g_iret E dX9_bringsOf_72
set_option maxHeartbeats 4000000 in
set_option maxRecDepth 100000 in
theorem fX9_bringsOf_w24 {k : gK} {X : gX} (E : gE k X cX9_bringsOf RX9 wsX9_bringsOf 8 (some .int) rm_fX9_bringsOf) (σ : St) (x1 : Int32) (x3 : Int32) (t0 : Int32) (r : Int32 × St) (hf : fX9_bringsOf_b24 σ x1 x3 t0 = some r) : G k X 8 (some (.int r.1)) (mw k.2.2.2 r.2) (mw k.2.2.2 σ) [(0, .ref (k.2.2.2.1 0)), (1, .int x1), (3, .int x3)] [.int t0] 24 := by
  unfold fX9_bringsOf_b24 at hf
  refine g_istore E [(6, .int t0), (0, .ref (k.2.2.2.1 0)), (1, .int x1), (3, .int x3)] dX9_bringsOf_24 (by decide) rfl ?_
  refine g_iload E 0 dX9_bringsOf_26 rfl ?_
  refine g_if_ge (tgt := 36) E dX9_bringsOf_28 (by decide) (fun c1 => ?_) (fun c1 => ?_)
  · have hf := gp hf c1
    refine g_aload_n E 1 dX9_bringsOf_36 rfl rfl ?_
    refine g_get (C := RX9) (T := TX9) (N := 20) (ci := 9) E 0 19 (.ref (k.2.2.2.1 16)) hi_X9_bringsOf_X9 (mwG0 _ _) rfl (by decide) hk_X9_bringsOf_56 rfl dX9_bringsOf_37 ?_
    refine g_sipush (v := (15625 : Int32)) E dX9_bringsOf_40 (by decide) ?_
    refine g_iload_n E 2 dX9_bringsOf_43 rfl rfl ?_
    refine g_iconst (v := (1 : Int32)) E dX9_bringsOf_44 (by decide) ?_
    refine g_iadd E dX9_bringsOf_45 ?_
    refine g_imul E dX9_bringsOf_46 ?_
    refine g_iload E 0 dX9_bringsOf_47 rfl ?_
    refine g_iadd E dX9_bringsOf_49 ?_
    obtain ⟨hi2, hf⟩ := gd hf
    refine g_iald E 16 (σ.1 16) (mwG16 _ _) hi2 dX9_bringsOf_50 ?_
    exact g_sub [1, 2, 3] rfl (fX9_bringsOf_w51 E σ x1 x3 (σ.1 16 (((((15625 : Int32) * ((x1 + (1 : Int32))))) + t0)).toNatClampNeg) r hf)
  · have hf := gn hf c1
    refine g_bipush (v := (-6 : Int32)) E dX9_bringsOf_31 (by decide) ?_
    refine g_goto (tgt := 51) E dX9_bringsOf_33 (by decide) ?_
    exact g_sub [1, 2, 3] rfl (fX9_bringsOf_w51 E σ x1 x3 (-6 : Int32) r hf)
set_option maxHeartbeats 4000000 in
set_option maxRecDepth 100000 in
theorem fX9_bringsOf_c (k : gK) (σ : St) (x1 : Int32) (x2 : Int32) (x3 : Int32) (x4 : Int32) (x5 : Int32) (r : Int32 × St) (hf : fX9_bringsOf σ x1 x2 x3 x4 x5 = some r) : MC k yX9_bringsOf wsX9_bringsOf rm_fX9_bringsOf [.ref (k.2.2.2.1 0), .int x1, .int x2, .int x3, .int x4, .int x5] (mw k.2.2.2 σ) (some (.int r.1)) (mw k.2.2.2 r.2) := by
  refine MC_of (cc := cX9_bringsOf) (maxL := 8) (ret := (some .int)) (own := RX9) (lvs := [(0, .ref (k.2.2.2.1 0)), (1, .int x1), (2, .int x2), (3, .int x3), (4, .int x4), (5, .int x5)]) (by decide) rfl rfl (Nat.le_of_ble_eq_true rfl) rfl (fun X E => ?_)
  unfold fX9_bringsOf at hf
  refine g_aload_n E 0 dX9_bringsOf_0 rfl rfl ?_
  refine g_iload_n E 1 dX9_bringsOf_1 rfl rfl ?_
  refine g_iload_n E 3 dX9_bringsOf_2 rfl rfl ?_
  refine g_iload E 4 dX9_bringsOf_3 rfl ?_
  obtain ⟨q1, hq2, hf⟩ := gb hf
  refine g_callV (C := RX9) (T := TX9) (N := 20) (ci := 9) (As := [.int x1, .int x3, .int x4]) (rest := []) (n := 3) E 0 (fX9_isFit_c k σ x1 x3 x4 q1 hq2) gX9_bringsOf_X9_isFit rfl rfl rfl (by decide +kernel) ⟨Nat.le_of_ble_eq_true rfl, Nat.le_of_ble_eq_true rfl⟩ rfl rfl (Nat.le_of_ble_eq_true rfl) rfl (mwG0 _ _) dX9_bringsOf_5 ?_
  refine g_if_eq (tgt := 22) E dX9_bringsOf_8 (by decide) (fun c3 => ?_) (fun c3 => ?_)
  · have hf := gp hf c3
    refine g_bipush (v := (-6 : Int32)) E dX9_bringsOf_22 (by decide) ?_
    exact g_sub [0, 1, 3] rfl (fX9_bringsOf_w24 E q1.2 x1 x3 (-6 : Int32) r hf)
  · have hf := gn hf c3
    refine g_aload_n E 0 dX9_bringsOf_11 rfl rfl ?_
    refine g_iload_n E 2 dX9_bringsOf_12 rfl rfl ?_
    refine g_iload_n E 3 dX9_bringsOf_13 rfl rfl ?_
    refine g_iload E 5 dX9_bringsOf_14 rfl ?_
    obtain ⟨q4, hq5, hf⟩ := gb hf
    refine g_callV (C := RX9) (T := TX9) (N := 20) (ci := 9) (As := [.int x2, .int x3, .int x5]) (rest := []) (n := 3) E 0 (fX9_loadsBy_c k q1.2 x2 x3 x5 q4 hq5) gX9_bringsOf_X9_loadsBy rfl rfl rfl (by decide +kernel) ⟨Nat.le_of_ble_eq_true rfl, Nat.le_of_ble_eq_true rfl⟩ rfl rfl (Nat.le_of_ble_eq_true rfl) rfl (mwG0 _ _) dX9_bringsOf_16 ?_
    refine g_goto (tgt := 24) E dX9_bringsOf_19 (by decide) ?_
    exact g_sub [0, 1, 3] rfl (fX9_bringsOf_w24 E q4.2 x1 x3 q4.1 r hf)
def rm_fX9_totalOf : Room := { frames := 0, cells := 0, slots := 0, locals := 0 }
set_option maxHeartbeats 4000000 in
set_option maxRecDepth 100000 in
theorem fX9_totalOf_w4 {k : gK} {X : gX} (E : gE k X cX9_totalOf RX9 wsX9_totalOf 3 (some .int) rm_fX9_totalOf) (rc4 : St → Int32 → Int32 → Option (Int32 × St)) (hrc4 : ∀ (σ : St) (x1 : Int32) (x2 : Int32) (r : Int32 × St), rc4 σ x1 x2 = some r → G k X 3 (some (.int r.1)) (mw k.2.2.2 r.2) (mw k.2.2.2 σ) [(1, .int x1), (2, .int x2)] [] 4) (σ : St) (x1 : Int32) (x2 : Int32) (r : Int32 × St) (hf : fX9_totalOf_b4 rc4 σ x1 x2 = some r) : G k X 3 (some (.int r.1)) (mw k.2.2.2 r.2) (mw k.2.2.2 σ) [(1, .int x1), (2, .int x2)] [] 4 := by
  unfold fX9_totalOf_b4 at hf
  refine g_iload_n E 1 dX9_totalOf_4 rfl rfl ?_
  refine g_if_le (tgt := 21) E dX9_totalOf_5 (by decide) (fun c1 => ?_) (fun c1 => ?_)
  · have hf := gp hf c1
    refine g_iload_n E 0 dX9_totalOf_21 rfl rfl ?_
    cases hf
    exact g_iret E dX9_totalOf_22
  · have hf := gn hf c1
    refine g_iload_n E 0 dX9_totalOf_8 rfl rfl ?_
    refine g_iload_n E 1 dX9_totalOf_9 rfl rfl ?_
    refine g_iconst (v := (5 : Int32)) E dX9_totalOf_10 (by decide) ?_
    refine g_irem E (by decide) dX9_totalOf_11 ?_
    refine g_iadd E dX9_totalOf_12 ?_
    refine g_istore_n E [(1, .int (x1 + ((x2 - x2 / (5 : Int32) * (5 : Int32))))), (2, .int x2)] dX9_totalOf_13 rfl (by decide) rfl ?_
    refine g_iload_n E 1 dX9_totalOf_14 rfl rfl ?_
    refine g_iconst (v := (5 : Int32)) E dX9_totalOf_15 (by decide) ?_
    refine g_idiv E (by decide) dX9_totalOf_16 ?_
    refine g_istore_n E [(2, .int (x2 / (5 : Int32))), (1, .int (x1 + ((x2 - x2 / (5 : Int32) * (5 : Int32)))))] dX9_totalOf_17 rfl (by decide) rfl ?_
    refine g_goto (tgt := 4) E dX9_totalOf_18 (by decide) ?_
    exact g_sub [1, 0] rfl (hrc4 σ (x1 + ((x2 - x2 / (5 : Int32) * (5 : Int32)))) (x2 / (5 : Int32)) r hf)
theorem fX9_totalOf_v4 {k : gK} {X : gX} (E : gE k X cX9_totalOf RX9 wsX9_totalOf 3 (some .int) rm_fX9_totalOf) : ∀ (n : Nat) (σ : St) (x1 : Int32) (x2 : Int32) (r : Int32 × St), fX9_totalOf_l4 n σ x1 x2 = some r → G k X 3 (some (.int r.1)) (mw k.2.2.2 r.2) (mw k.2.2.2 σ) [(1, .int x1), (2, .int x2)] [] 4 := by
  intro n
  induction n with
  | zero => intro σ x1 x2 r hf; cases hf
  | succ n ih => intro σ x1 x2 r hf; exact fX9_totalOf_w4 E (fX9_totalOf_l4 n) ih σ x1 x2 r hf
set_option maxHeartbeats 4000000 in
set_option maxRecDepth 100000 in
theorem fX9_totalOf_c (k : gK) (σ : St) (x0 : Int32) (r : Int32 × St) (hf : fX9_totalOf σ x0 = some r) : MC k yX9_totalOf wsX9_totalOf rm_fX9_totalOf [.int x0] (mw k.2.2.2 σ) (some (.int r.1)) (mw k.2.2.2 r.2) := by
  refine MC_of (cc := cX9_totalOf) (maxL := 3) (ret := (some .int)) (own := RX9) (lvs := [(0, .int x0)]) (by decide) rfl rfl (Nat.le_of_ble_eq_true rfl) rfl (fun X E => ?_)
  unfold fX9_totalOf at hf
  refine g_iconst (v := (0 : Int32)) E dX9_totalOf_0 (by decide) ?_
  refine g_istore_n E [(1, .int (0 : Int32)), (0, .int x0)] dX9_totalOf_1 rfl (by decide) rfl ?_
  refine g_iload_n E 1 dX9_totalOf_2 rfl rfl ?_
  refine g_istore_n E [(2, .int x0), (1, .int (0 : Int32)), (0, .int x0)] dX9_totalOf_3 rfl (by decide) rfl ?_
  exact g_sub [1, 0] rfl (fX9_totalOf_v4 E gF σ (0 : Int32) x0 r hf)
theorem hi_X9_findMost_X9 : ∀ w ∈ wsX90, w ∈ wsX9_findMost := by decide +kernel
theorem hk_X9_findMost_56 : Cond.fieldLink RX9 56 "PaperMarksModel" "mostFrom" "[I" ∈ wsX9_findMost := by decide +kernel
theorem hk_X9_findMost_63 : Cond.fieldLink RX9 63 "PaperMarksModel" "judges" "I" ∈ wsX9_findMost := by decide +kernel
theorem hk_X9_findMost_67 : Cond.fieldLink RX9 67 "PaperMarksModel" "papers" "I" ∈ wsX9_findMost := by decide +kernel
def rm_fX9_findMost : Room := { frames := 3, cells := 0, slots := 0, locals := 74 }
set_option maxHeartbeats 4000000 in
set_option maxRecDepth 100000 in
theorem fX9_findMost_w142 {k : gK} {X : gX} (E : gE k X cX9_findMost RX9 wsX9_findMost 8 none rm_fX9_findMost) (rc38 : St → Int32 → Int32 → Int32 → Option (Unit × St)) (hrc38 : ∀ (σ : St) (x1 : Int32) (x2 : Int32) (x3 : Int32) (r : Unit × St), rc38 σ x1 x2 x3 = some r → G k X 8 (none) (mw k.2.2.2 r.2) (mw k.2.2.2 σ) [(0, .ref (k.2.2.2.1 0)), (1, .int x1), (2, .int x2), (3, .int x3)] [] 38) (rc45 : St → Int32 → Int32 → Int32 → Int32 → Option (Unit × St)) (hrc45 : ∀ (σ : St) (x1 : Int32) (x2 : Int32) (x3 : Int32) (x4 : Int32) (r : Unit × St), rc45 σ x1 x2 x3 x4 = some r → G k X 8 (none) (mw k.2.2.2 r.2) (mw k.2.2.2 σ) [(0, .ref (k.2.2.2.1 0)), (1, .int x1), (2, .int x2), (3, .int x3), (4, .int x4)] [] 45) (σ : St) (x1 : Int32) (x2 : Int32) (x3 : Int32) (x4 : Int32) (x5 : Int32) (r : Unit × St) (hf : fX9_findMost_b142 rc38 rc45 σ x1 x2 x3 x4 x5 = some r) : G k X 8 (none) (mw k.2.2.2 r.2) (mw k.2.2.2 σ) [(0, .ref (k.2.2.2.1 0)), (1, .int x1), (2, .int x2), (3, .int x3), (4, .int x4), (5, .int x5)] [] 142 := by
  unfold fX9_findMost_b142 at hf
  refine g_aload_n E 0 dX9_findMost_142 rfl rfl ?_
  refine g_get (C := RX9) (T := TX9) (N := 20) (ci := 9) E 0 19 (.ref (k.2.2.2.1 16)) hi_X9_findMost_X9 (mwG0 _ _) rfl (by decide) hk_X9_findMost_56 rfl dX9_findMost_143 ?_
  refine g_sipush (v := (15625 : Int32)) E dX9_findMost_146 (by decide) ?_
  refine g_iload_n E 3 dX9_findMost_149 rfl rfl ?_
  refine g_imul E dX9_findMost_150 ?_
  refine g_iload E 4 dX9_findMost_151 rfl ?_
  refine g_iadd E dX9_findMost_153 ?_
  refine g_iload E 5 dX9_findMost_154 rfl ?_
  obtain ⟨hi1, hf⟩ := gd hf
  refine g_iast E 16 (mw k.2.2.2 (uA σ 16 (((((15625 : Int32) * x3)) + x4)).toNatClampNeg x5)) (σ.1 16) (mwG16 _ _) hi1 (mwA16 _ _ _ _) dX9_findMost_156 ?_
  refine g_iinc E 4 [(4, .int (x4 + (1 : Int32))), (0, .ref (k.2.2.2.1 0)), (1, .int x1), (2, .int x2), (3, .int x3), (5, .int x5)] (x4 + (1 : Int32)) dX9_findMost_157 rfl (by rfl) (by decide) rfl ?_
  refine g_goto (tgt := 45) E dX9_findMost_160 (by decide) ?_
  exact g_sub [1, 2, 3, 4, 0] rfl (hrc45 (uA σ 16 (((((15625 : Int32) * x3)) + x4)).toNatClampNeg x5) x1 x2 x3 (x4 + (1 : Int32)) r hf)
set_option maxHeartbeats 4000000 in
set_option maxRecDepth 100000 in
theorem fX9_findMost_w134 {k : gK} {X : gX} (E : gE k X cX9_findMost RX9 wsX9_findMost 8 none rm_fX9_findMost) (rc38 : St → Int32 → Int32 → Int32 → Option (Unit × St)) (hrc38 : ∀ (σ : St) (x1 : Int32) (x2 : Int32) (x3 : Int32) (r : Unit × St), rc38 σ x1 x2 x3 = some r → G k X 8 (none) (mw k.2.2.2 r.2) (mw k.2.2.2 σ) [(0, .ref (k.2.2.2.1 0)), (1, .int x1), (2, .int x2), (3, .int x3)] [] 38) (rc45 : St → Int32 → Int32 → Int32 → Int32 → Option (Unit × St)) (hrc45 : ∀ (σ : St) (x1 : Int32) (x2 : Int32) (x3 : Int32) (x4 : Int32) (r : Unit × St), rc45 σ x1 x2 x3 x4 = some r → G k X 8 (none) (mw k.2.2.2 r.2) (mw k.2.2.2 σ) [(0, .ref (k.2.2.2.1 0)), (1, .int x1), (2, .int x2), (3, .int x3), (4, .int x4)] [] 45) (rc82 : St → Int32 → Int32 → Int32 → Int32 → Int32 → Int32 → Option (Unit × St)) (hrc82 : ∀ (σ : St) (x1 : Int32) (x2 : Int32) (x3 : Int32) (x4 : Int32) (x5 : Int32) (x6 : Int32) (r : Unit × St), rc82 σ x1 x2 x3 x4 x5 x6 = some r → G k X 8 (none) (mw k.2.2.2 r.2) (mw k.2.2.2 σ) [(0, .ref (k.2.2.2.1 0)), (1, .int x1), (2, .int x2), (3, .int x3), (4, .int x4), (5, .int x5), (6, .int x6)] [] 82) (σ : St) (x1 : Int32) (x2 : Int32) (x3 : Int32) (x4 : Int32) (x6 : Int32) (t0 : Int32) (r : Unit × St) (hf : fX9_findMost_b134 rc38 rc45 rc82 σ x1 x2 x3 x4 x6 t0 = some r) : G k X 8 (none) (mw k.2.2.2 r.2) (mw k.2.2.2 σ) [(0, .ref (k.2.2.2.1 0)), (1, .int x1), (2, .int x2), (3, .int x3), (4, .int x4), (6, .int x6)] [.int t0] 134 := by
  unfold fX9_findMost_b134 at hf
  refine g_istore E [(5, .int t0), (0, .ref (k.2.2.2.1 0)), (1, .int x1), (2, .int x2), (3, .int x3), (4, .int x4), (6, .int x6)] dX9_findMost_134 (by decide) rfl ?_
  refine g_iinc E 6 [(6, .int (x6 + (1 : Int32))), (5, .int t0), (0, .ref (k.2.2.2.1 0)), (1, .int x1), (2, .int x2), (3, .int x3), (4, .int x4)] (x6 + (1 : Int32)) dX9_findMost_136 rfl (by rfl) (by decide) rfl ?_
  refine g_goto (tgt := 82) E dX9_findMost_139 (by decide) ?_
  exact g_sub [2, 3, 4, 5, 6, 1, 0] rfl (hrc82 σ x1 x2 x3 x4 t0 (x6 + (1 : Int32)) r hf)
set_option maxHeartbeats 4000000 in
set_option maxRecDepth 100000 in
theorem fX9_findMost_w118 {k : gK} {X : gX} (E : gE k X cX9_findMost RX9 wsX9_findMost 8 none rm_fX9_findMost) (rc38 : St → Int32 → Int32 → Int32 → Option (Unit × St)) (hrc38 : ∀ (σ : St) (x1 : Int32) (x2 : Int32) (x3 : Int32) (r : Unit × St), rc38 σ x1 x2 x3 = some r → G k X 8 (none) (mw k.2.2.2 r.2) (mw k.2.2.2 σ) [(0, .ref (k.2.2.2.1 0)), (1, .int x1), (2, .int x2), (3, .int x3)] [] 38) (rc45 : St → Int32 → Int32 → Int32 → Int32 → Option (Unit × St)) (hrc45 : ∀ (σ : St) (x1 : Int32) (x2 : Int32) (x3 : Int32) (x4 : Int32) (r : Unit × St), rc45 σ x1 x2 x3 x4 = some r → G k X 8 (none) (mw k.2.2.2 r.2) (mw k.2.2.2 σ) [(0, .ref (k.2.2.2.1 0)), (1, .int x1), (2, .int x2), (3, .int x3), (4, .int x4)] [] 45) (rc82 : St → Int32 → Int32 → Int32 → Int32 → Int32 → Int32 → Option (Unit × St)) (hrc82 : ∀ (σ : St) (x1 : Int32) (x2 : Int32) (x3 : Int32) (x4 : Int32) (x5 : Int32) (x6 : Int32) (r : Unit × St), rc82 σ x1 x2 x3 x4 x5 x6 = some r → G k X 8 (none) (mw k.2.2.2 r.2) (mw k.2.2.2 σ) [(0, .ref (k.2.2.2.1 0)), (1, .int x1), (2, .int x2), (3, .int x3), (4, .int x4), (5, .int x5), (6, .int x6)] [] 82) (σ : St) (x1 : Int32) (x2 : Int32) (x3 : Int32) (x4 : Int32) (x5 : Int32) (x6 : Int32) (t0 : Int32) (r : Unit × St) (hf : fX9_findMost_b118 rc38 rc45 rc82 σ x1 x2 x3 x4 x5 x6 t0 = some r) : G k X 8 (none) (mw k.2.2.2 r.2) (mw k.2.2.2 σ) [(0, .ref (k.2.2.2.1 0)), (1, .int x1), (2, .int x2), (3, .int x3), (4, .int x4), (5, .int x5), (6, .int x6)] [.int t0] 118 := by
  unfold fX9_findMost_b118 at hf
  refine g_istore E [(7, .int t0), (0, .ref (k.2.2.2.1 0)), (1, .int x1), (2, .int x2), (3, .int x3), (4, .int x4), (5, .int x5), (6, .int x6)] dX9_findMost_118 (by decide) rfl ?_
  refine g_iload E 0 dX9_findMost_120 rfl ?_
  refine g_iload E 6 dX9_findMost_122 rfl ?_
  refine g_icmp_le (tgt := 132) E dX9_findMost_124 (by decide) (fun c1 => ?_) (fun c1 => ?_)
  · have hf := gp hf c1
    refine g_iload E 6 dX9_findMost_132 rfl ?_
    exact g_sub [1, 2, 3, 4, 5, 7] rfl (fX9_findMost_w134 E rc38 hrc38 rc45 hrc45 rc82 hrc82 σ x1 x2 x3 x4 x6 x5 r hf)
  · have hf := gn hf c1
    refine g_iload E 0 dX9_findMost_127 rfl ?_
    refine g_goto (tgt := 134) E dX9_findMost_129 (by decide) ?_
    exact g_sub [1, 2, 3, 4, 5, 7] rfl (fX9_findMost_w134 E rc38 hrc38 rc45 hrc45 rc82 hrc82 σ x1 x2 x3 x4 x6 t0 r hf)
set_option maxHeartbeats 4000000 in
set_option maxRecDepth 100000 in
theorem fX9_findMost_w82 {k : gK} {X : gX} (E : gE k X cX9_findMost RX9 wsX9_findMost 8 none rm_fX9_findMost) (rc38 : St → Int32 → Int32 → Int32 → Option (Unit × St)) (hrc38 : ∀ (σ : St) (x1 : Int32) (x2 : Int32) (x3 : Int32) (r : Unit × St), rc38 σ x1 x2 x3 = some r → G k X 8 (none) (mw k.2.2.2 r.2) (mw k.2.2.2 σ) [(0, .ref (k.2.2.2.1 0)), (1, .int x1), (2, .int x2), (3, .int x3)] [] 38) (rc45 : St → Int32 → Int32 → Int32 → Int32 → Option (Unit × St)) (hrc45 : ∀ (σ : St) (x1 : Int32) (x2 : Int32) (x3 : Int32) (x4 : Int32) (r : Unit × St), rc45 σ x1 x2 x3 x4 = some r → G k X 8 (none) (mw k.2.2.2 r.2) (mw k.2.2.2 σ) [(0, .ref (k.2.2.2.1 0)), (1, .int x1), (2, .int x2), (3, .int x3), (4, .int x4)] [] 45) (rc82 : St → Int32 → Int32 → Int32 → Int32 → Int32 → Int32 → Option (Unit × St)) (hrc82 : ∀ (σ : St) (x1 : Int32) (x2 : Int32) (x3 : Int32) (x4 : Int32) (x5 : Int32) (x6 : Int32) (r : Unit × St), rc82 σ x1 x2 x3 x4 x5 x6 = some r → G k X 8 (none) (mw k.2.2.2 r.2) (mw k.2.2.2 σ) [(0, .ref (k.2.2.2.1 0)), (1, .int x1), (2, .int x2), (3, .int x3), (4, .int x4), (5, .int x5), (6, .int x6)] [] 82) (σ : St) (x1 : Int32) (x2 : Int32) (x3 : Int32) (x4 : Int32) (x5 : Int32) (x6 : Int32) (r : Unit × St) (hf : fX9_findMost_b82 rc38 rc45 rc82 σ x1 x2 x3 x4 x5 x6 = some r) : G k X 8 (none) (mw k.2.2.2 r.2) (mw k.2.2.2 σ) [(0, .ref (k.2.2.2.1 0)), (1, .int x1), (2, .int x2), (3, .int x3), (4, .int x4), (5, .int x5), (6, .int x6)] [] 82 := by
  unfold fX9_findMost_b82 at hf
  refine g_iload E 6 dX9_findMost_82 rfl ?_
  refine g_iconst (v := (1 : Int32)) E dX9_findMost_84 (by decide) ?_
  refine g_aload_n E 0 dX9_findMost_85 rfl rfl ?_
  refine g_get (C := RX9) (T := TX9) (N := 20) (ci := 9) E 0 3 (.int (σ.2.1 0)) hi_X9_findMost_X9 (mwG0 _ _) rfl (by decide) hk_X9_findMost_63 rfl dX9_findMost_86 ?_
  refine g_ishl E dX9_findMost_89 ?_
  refine g_icmp_ge (tgt := 142) E dX9_findMost_90 (by decide) (fun c1 => ?_) (fun c1 => ?_)
  · have hf := gp hf c1
    exact g_sub [0, 1, 2, 3, 4, 5] rfl (fX9_findMost_w142 E rc38 hrc38 rc45 hrc45 σ x1 x2 x3 x4 x5 r hf)
  · have hf := gn hf c1
    refine g_iload E 6 dX9_findMost_93 rfl ?_
    obtain ⟨q2, hq3, hf⟩ := gb hf
    refine g_callS (As := [.int x6]) (rest := []) (n := 1) E (fX9_ones_c k σ x6 q2 hq3) gX9_findMost_X9_ones rfl rfl rfl (by decide +kernel) ⟨Nat.le_of_ble_eq_true rfl, Nat.le_of_ble_eq_true rfl⟩ rfl rfl (Nat.le_of_ble_eq_true rfl) dX9_findMost_95 ?_
    refine g_iload_n E 1 dX9_findMost_98 rfl rfl ?_
    refine g_icmp_ne (tgt := 116) E dX9_findMost_99 (by decide) (fun c4 => ?_) (fun c4 => ?_)
    · have hf := gn hf c4
      refine g_bipush (v := (-6 : Int32)) E dX9_findMost_116 (by decide) ?_
      exact fX9_findMost_w118 E rc38 hrc38 rc45 hrc45 rc82 hrc82 q2.2 x1 x2 x3 x4 x5 x6 (-6 : Int32) r hf
    · have hf := gp hf c4
      refine g_aload_n E 0 dX9_findMost_102 rfl rfl ?_
      refine g_iload_n E 3 dX9_findMost_103 rfl rfl ?_
      refine g_iload E 4 dX9_findMost_104 rfl ?_
      refine g_iload E 6 dX9_findMost_106 rfl ?_
      refine g_iload_n E 1 dX9_findMost_108 rfl rfl ?_
      refine g_iload_n E 2 dX9_findMost_109 rfl rfl ?_
      obtain ⟨q5, hq6, hf⟩ := gb hf
      refine g_callV (C := RX9) (T := TX9) (N := 20) (ci := 9) (As := [.int x3, .int x4, .int x6, .int x1, .int x2]) (rest := []) (n := 5) E 0 (fX9_bringsOf_c k q2.2 x3 x4 x6 x1 x2 q5 hq6) gX9_findMost_X9_bringsOf rfl rfl rfl (by decide +kernel) ⟨Nat.le_of_ble_eq_true rfl, Nat.le_of_ble_eq_true rfl⟩ rfl rfl (Nat.le_of_ble_eq_true rfl) rfl (mwG0 _ _) dX9_findMost_110 ?_
      refine g_goto (tgt := 118) E dX9_findMost_113 (by decide) ?_
      exact fX9_findMost_w118 E rc38 hrc38 rc45 hrc45 rc82 hrc82 q5.2 x1 x2 x3 x4 x5 x6 q5.1 r hf
theorem fX9_findMost_v82 {k : gK} {X : gX} (E : gE k X cX9_findMost RX9 wsX9_findMost 8 none rm_fX9_findMost) (rc38 : St → Int32 → Int32 → Int32 → Option (Unit × St)) (hrc38 : ∀ (σ : St) (x1 : Int32) (x2 : Int32) (x3 : Int32) (r : Unit × St), rc38 σ x1 x2 x3 = some r → G k X 8 (none) (mw k.2.2.2 r.2) (mw k.2.2.2 σ) [(0, .ref (k.2.2.2.1 0)), (1, .int x1), (2, .int x2), (3, .int x3)] [] 38) (rc45 : St → Int32 → Int32 → Int32 → Int32 → Option (Unit × St)) (hrc45 : ∀ (σ : St) (x1 : Int32) (x2 : Int32) (x3 : Int32) (x4 : Int32) (r : Unit × St), rc45 σ x1 x2 x3 x4 = some r → G k X 8 (none) (mw k.2.2.2 r.2) (mw k.2.2.2 σ) [(0, .ref (k.2.2.2.1 0)), (1, .int x1), (2, .int x2), (3, .int x3), (4, .int x4)] [] 45) : ∀ (n : Nat) (σ : St) (x1 : Int32) (x2 : Int32) (x3 : Int32) (x4 : Int32) (x5 : Int32) (x6 : Int32) (r : Unit × St), fX9_findMost_l82 rc38 rc45 n σ x1 x2 x3 x4 x5 x6 = some r → G k X 8 (none) (mw k.2.2.2 r.2) (mw k.2.2.2 σ) [(0, .ref (k.2.2.2.1 0)), (1, .int x1), (2, .int x2), (3, .int x3), (4, .int x4), (5, .int x5), (6, .int x6)] [] 82 := by
  intro n
  induction n with
  | zero => intro σ x1 x2 x3 x4 x5 x6 r hf; cases hf
  | succ n ih => intro σ x1 x2 x3 x4 x5 x6 r hf; exact fX9_findMost_w82 E rc38 hrc38 rc45 hrc45 (fX9_findMost_l82 rc38 rc45 n) ih σ x1 x2 x3 x4 x5 x6 r hf
set_option maxHeartbeats 4000000 in
set_option maxRecDepth 100000 in
theorem fX9_findMost_w45 {k : gK} {X : gX} (E : gE k X cX9_findMost RX9 wsX9_findMost 8 none rm_fX9_findMost) (rc38 : St → Int32 → Int32 → Int32 → Option (Unit × St)) (hrc38 : ∀ (σ : St) (x1 : Int32) (x2 : Int32) (x3 : Int32) (r : Unit × St), rc38 σ x1 x2 x3 = some r → G k X 8 (none) (mw k.2.2.2 r.2) (mw k.2.2.2 σ) [(0, .ref (k.2.2.2.1 0)), (1, .int x1), (2, .int x2), (3, .int x3)] [] 38) (rc45 : St → Int32 → Int32 → Int32 → Int32 → Option (Unit × St)) (hrc45 : ∀ (σ : St) (x1 : Int32) (x2 : Int32) (x3 : Int32) (x4 : Int32) (r : Unit × St), rc45 σ x1 x2 x3 x4 = some r → G k X 8 (none) (mw k.2.2.2 r.2) (mw k.2.2.2 σ) [(0, .ref (k.2.2.2.1 0)), (1, .int x1), (2, .int x2), (3, .int x3), (4, .int x4)] [] 45) (σ : St) (x1 : Int32) (x2 : Int32) (x3 : Int32) (x4 : Int32) (r : Unit × St) (hf : fX9_findMost_b45 rc38 rc45 σ x1 x2 x3 x4 = some r) : G k X 8 (none) (mw k.2.2.2 r.2) (mw k.2.2.2 σ) [(0, .ref (k.2.2.2.1 0)), (1, .int x1), (2, .int x2), (3, .int x3), (4, .int x4)] [] 45 := by
  unfold fX9_findMost_b45 at hf
  refine g_iload E 4 dX9_findMost_45 rfl ?_
  refine g_sipush (v := (15625 : Int32)) E dX9_findMost_47 (by decide) ?_
  refine g_icmp_ge (tgt := 163) E dX9_findMost_50 (by decide) (fun c1 => ?_) (fun c1 => ?_)
  · have hf := gp hf c1
    refine g_iinc E 3 [(3, .int (x3 + (-1 : Int32))), (0, .ref (k.2.2.2.1 0)), (1, .int x1), (2, .int x2), (4, .int x4)] (x3 + (-1 : Int32)) dX9_findMost_163 rfl (by rfl) (by decide) rfl ?_
    refine g_goto (tgt := 38) E dX9_findMost_166 (by decide) ?_
    exact g_sub [1, 2, 3, 0] rfl (hrc38 σ x1 x2 (x3 + (-1 : Int32)) r hf)
  · have hf := gn hf c1
    refine g_bipush (v := (-6 : Int32)) E dX9_findMost_53 (by decide) ?_
    refine g_istore E [(5, .int (-6 : Int32)), (0, .ref (k.2.2.2.1 0)), (1, .int x1), (2, .int x2), (3, .int x3), (4, .int x4)] dX9_findMost_55 (by decide) rfl ?_
    refine g_iload E 5 dX9_findMost_57 rfl ?_
    obtain ⟨q2, hq3, hf⟩ := gb hf
    refine g_callS (As := [.int x4]) (rest := []) (n := 1) E (fX9_totalOf_c k σ x4 q2 hq3) gX9_findMost_X9_totalOf rfl rfl rfl (by decide +kernel) ⟨Nat.le_of_ble_eq_true rfl, Nat.le_of_ble_eq_true rfl⟩ rfl rfl (Nat.le_of_ble_eq_true rfl) dX9_findMost_59 ?_
    refine g_iload_n E 2 dX9_findMost_62 rfl rfl ?_
    refine g_iload_n E 4 dX9_findMost_63 rfl rfl ?_
    refine g_imul E dX9_findMost_64 ?_
    refine g_icmp_ne (tgt := 142) E dX9_findMost_65 (by decide) (fun c4 => ?_) (fun c4 => ?_)
    · have hf := gn hf c4
      exact g_sub [1, 2, 3, 4, 5, 0] rfl (fX9_findMost_w142 E rc38 hrc38 rc45 hrc45 q2.2 x1 x2 x3 x4 (-6 : Int32) r hf)
    · have hf := gp hf c4
      refine g_aload_n E 1 dX9_findMost_68 rfl rfl ?_
      refine g_iload E 5 dX9_findMost_69 rfl ?_
      refine g_iconst (v := (0 : Int32)) E dX9_findMost_71 (by decide) ?_
      refine g_iload_n E 3 dX9_findMost_72 rfl rfl ?_
      obtain ⟨q5, hq6, hf⟩ := gb hf
      refine g_callV (C := RX9) (T := TX9) (N := 20) (ci := 9) (As := [.int x4, .int (0 : Int32), .int x2]) (rest := []) (n := 3) E 0 (fX9_loadsBy_c k q2.2 x4 (0 : Int32) x2 q5 hq6) gX9_findMost_X9_loadsBy rfl rfl rfl (by decide +kernel) ⟨Nat.le_of_ble_eq_true rfl, Nat.le_of_ble_eq_true rfl⟩ rfl rfl (Nat.le_of_ble_eq_true rfl) rfl (mwG0 _ _) dX9_findMost_73 ?_
      refine g_if_lt (tgt := 142) E dX9_findMost_76 (by decide) (fun c7 => ?_) (fun c7 => ?_)
      · have hf := gp hf c7
        exact g_sub [1, 2, 3, 4, 5, 0] rfl (fX9_findMost_w142 E rc38 hrc38 rc45 hrc45 q5.2 x1 x2 x3 x4 (-6 : Int32) r hf)
      · have hf := gn hf c7
        refine g_iconst (v := (0 : Int32)) E dX9_findMost_79 (by decide) ?_
        refine g_istore E [(6, .int (0 : Int32)), (5, .int (-6 : Int32)), (0, .ref (k.2.2.2.1 0)), (1, .int x1), (2, .int x2), (3, .int x3), (4, .int x4)] dX9_findMost_80 (by decide) rfl ?_
        exact g_sub [2, 3, 4, 5, 6, 1, 0] rfl (fX9_findMost_v82 E rc38 hrc38 rc45 hrc45 gF q5.2 x1 x2 x3 x4 (-6 : Int32) (0 : Int32) r hf)
theorem fX9_findMost_v45 {k : gK} {X : gX} (E : gE k X cX9_findMost RX9 wsX9_findMost 8 none rm_fX9_findMost) (rc38 : St → Int32 → Int32 → Int32 → Option (Unit × St)) (hrc38 : ∀ (σ : St) (x1 : Int32) (x2 : Int32) (x3 : Int32) (r : Unit × St), rc38 σ x1 x2 x3 = some r → G k X 8 (none) (mw k.2.2.2 r.2) (mw k.2.2.2 σ) [(0, .ref (k.2.2.2.1 0)), (1, .int x1), (2, .int x2), (3, .int x3)] [] 38) : ∀ (n : Nat) (σ : St) (x1 : Int32) (x2 : Int32) (x3 : Int32) (x4 : Int32) (r : Unit × St), fX9_findMost_l45 rc38 n σ x1 x2 x3 x4 = some r → G k X 8 (none) (mw k.2.2.2 r.2) (mw k.2.2.2 σ) [(0, .ref (k.2.2.2.1 0)), (1, .int x1), (2, .int x2), (3, .int x3), (4, .int x4)] [] 45 := by
  intro n
  induction n with
  | zero => intro σ x1 x2 x3 x4 r hf; cases hf
  | succ n ih => intro σ x1 x2 x3 x4 r hf; exact fX9_findMost_w45 E rc38 hrc38 (fX9_findMost_l45 rc38 n) ih σ x1 x2 x3 x4 r hf
set_option maxHeartbeats 4000000 in
set_option maxRecDepth 100000 in
theorem fX9_findMost_w38 {k : gK} {X : gX} (E : gE k X cX9_findMost RX9 wsX9_findMost 8 none rm_fX9_findMost) (rc38 : St → Int32 → Int32 → Int32 → Option (Unit × St)) (hrc38 : ∀ (σ : St) (x1 : Int32) (x2 : Int32) (x3 : Int32) (r : Unit × St), rc38 σ x1 x2 x3 = some r → G k X 8 (none) (mw k.2.2.2 r.2) (mw k.2.2.2 σ) [(0, .ref (k.2.2.2.1 0)), (1, .int x1), (2, .int x2), (3, .int x3)] [] 38) (σ : St) (x1 : Int32) (x2 : Int32) (x3 : Int32) (r : Unit × St) (hf : fX9_findMost_b38 rc38 σ x1 x2 x3 = some r) : G k X 8 (none) (mw k.2.2.2 r.2) (mw k.2.2.2 σ) [(0, .ref (k.2.2.2.1 0)), (1, .int x1), (2, .int x2), (3, .int x3)] [] 38 := by
  unfold fX9_findMost_b38 at hf
  refine g_iload_n E 3 dX9_findMost_38 rfl rfl ?_
  refine g_if_lt (tgt := 169) E dX9_findMost_39 (by decide) (fun c1 => ?_) (fun c1 => ?_)
  · have hf := gp hf c1
    cases hf
    exact g_vret E dX9_findMost_169
  · have hf := gn hf c1
    refine g_iconst (v := (0 : Int32)) E dX9_findMost_42 (by decide) ?_
    refine g_istore E [(4, .int (0 : Int32)), (0, .ref (k.2.2.2.1 0)), (1, .int x1), (2, .int x2), (3, .int x3)] dX9_findMost_43 (by decide) rfl ?_
    exact g_sub [1, 2, 3, 4, 0] rfl (fX9_findMost_v45 E rc38 hrc38 gF σ x1 x2 x3 (0 : Int32) r hf)
theorem fX9_findMost_v38 {k : gK} {X : gX} (E : gE k X cX9_findMost RX9 wsX9_findMost 8 none rm_fX9_findMost) : ∀ (n : Nat) (σ : St) (x1 : Int32) (x2 : Int32) (x3 : Int32) (r : Unit × St), fX9_findMost_l38 n σ x1 x2 x3 = some r → G k X 8 (none) (mw k.2.2.2 r.2) (mw k.2.2.2 σ) [(0, .ref (k.2.2.2.1 0)), (1, .int x1), (2, .int x2), (3, .int x3)] [] 38 := by
  intro n
  induction n with
  | zero => intro σ x1 x2 x3 r hf; cases hf
  | succ n ih => intro σ x1 x2 x3 r hf; exact fX9_findMost_w38 E (fX9_findMost_l38 n) ih σ x1 x2 x3 r hf
set_option maxHeartbeats 4000000 in
set_option maxRecDepth 100000 in
theorem fX9_findMost_w2 {k : gK} {X : gX} (E : gE k X cX9_findMost RX9 wsX9_findMost 8 none rm_fX9_findMost) (rc2 : St → Int32 → Int32 → Int32 → Option (Unit × St)) (hrc2 : ∀ (σ : St) (x1 : Int32) (x2 : Int32) (x3 : Int32) (r : Unit × St), rc2 σ x1 x2 x3 = some r → G k X 8 (none) (mw k.2.2.2 r.2) (mw k.2.2.2 σ) [(0, .ref (k.2.2.2.1 0)), (1, .int x1), (2, .int x2), (3, .int x3)] [] 2) (σ : St) (x1 : Int32) (x2 : Int32) (x3 : Int32) (r : Unit × St) (hf : fX9_findMost_b2 rc2 σ x1 x2 x3 = some r) : G k X 8 (none) (mw k.2.2.2 r.2) (mw k.2.2.2 σ) [(0, .ref (k.2.2.2.1 0)), (1, .int x1), (2, .int x2), (3, .int x3)] [] 2 := by
  unfold fX9_findMost_b2 at hf
  refine g_iload_n E 3 dX9_findMost_2 rfl rfl ?_
  refine g_sipush (v := (15625 : Int32)) E dX9_findMost_3 (by decide) ?_
  refine g_icmp_ge (tgt := 31) E dX9_findMost_6 (by decide) (fun c1 => ?_) (fun c1 => ?_)
  · have hf := gp hf c1
    refine g_aload_n E 0 dX9_findMost_31 rfl rfl ?_
    refine g_get (C := RX9) (T := TX9) (N := 20) (ci := 9) E 0 9 (.int (σ.2.1 1)) hi_X9_findMost_X9 (mwG0 _ _) rfl (by decide) hk_X9_findMost_67 rfl dX9_findMost_32 ?_
    refine g_iconst (v := (1 : Int32)) E dX9_findMost_35 (by decide) ?_
    refine g_isub E dX9_findMost_36 ?_
    refine g_istore_n E [(3, .int ((σ.2.1 1) - (1 : Int32))), (0, .ref (k.2.2.2.1 0)), (1, .int x1), (2, .int x2)] dX9_findMost_37 rfl (by decide) rfl ?_
    exact g_sub [1, 2, 3, 0] rfl (fX9_findMost_v38 E gF σ x1 x2 ((σ.2.1 1) - (1 : Int32)) r hf)
  · have hf := gn hf c1
    refine g_aload_n E 0 dX9_findMost_9 rfl rfl ?_
    refine g_get (C := RX9) (T := TX9) (N := 20) (ci := 9) E 0 19 (.ref (k.2.2.2.1 16)) hi_X9_findMost_X9 (mwG0 _ _) rfl (by decide) hk_X9_findMost_56 rfl dX9_findMost_10 ?_
    refine g_sipush (v := (15625 : Int32)) E dX9_findMost_13 (by decide) ?_
    refine g_aload_n E 0 dX9_findMost_16 rfl rfl ?_
    refine g_get (C := RX9) (T := TX9) (N := 20) (ci := 9) E 0 9 (.int (σ.2.1 1)) hi_X9_findMost_X9 (mwG0 _ _) rfl (by decide) hk_X9_findMost_67 rfl dX9_findMost_17 ?_
    refine g_imul E dX9_findMost_20 ?_
    refine g_iload_n E 3 dX9_findMost_21 rfl rfl ?_
    refine g_iadd E dX9_findMost_22 ?_
    refine g_iconst (v := (0 : Int32)) E dX9_findMost_23 (by decide) ?_
    obtain ⟨hi2, hf⟩ := gd hf
    refine g_iast E 16 (mw k.2.2.2 (uA σ 16 (((((15625 : Int32) * (σ.2.1 1))) + x3)).toNatClampNeg (0 : Int32))) (σ.1 16) (mwG16 _ _) hi2 (mwA16 _ _ _ _) dX9_findMost_24 ?_
    refine g_iinc E 3 [(3, .int (x3 + (1 : Int32))), (0, .ref (k.2.2.2.1 0)), (1, .int x1), (2, .int x2)] (x3 + (1 : Int32)) dX9_findMost_25 rfl (by rfl) (by decide) rfl ?_
    refine g_goto (tgt := 2) E dX9_findMost_28 (by decide) ?_
    exact g_sub [1, 2, 3, 0] rfl (hrc2 (uA σ 16 (((((15625 : Int32) * (σ.2.1 1))) + x3)).toNatClampNeg (0 : Int32)) x1 x2 (x3 + (1 : Int32)) r hf)
theorem fX9_findMost_v2 {k : gK} {X : gX} (E : gE k X cX9_findMost RX9 wsX9_findMost 8 none rm_fX9_findMost) : ∀ (n : Nat) (σ : St) (x1 : Int32) (x2 : Int32) (x3 : Int32) (r : Unit × St), fX9_findMost_l2 n σ x1 x2 x3 = some r → G k X 8 (none) (mw k.2.2.2 r.2) (mw k.2.2.2 σ) [(0, .ref (k.2.2.2.1 0)), (1, .int x1), (2, .int x2), (3, .int x3)] [] 2 := by
  intro n
  induction n with
  | zero => intro σ x1 x2 x3 r hf; cases hf
  | succ n ih => intro σ x1 x2 x3 r hf; exact fX9_findMost_w2 E (fX9_findMost_l2 n) ih σ x1 x2 x3 r hf
set_option maxHeartbeats 4000000 in
set_option maxRecDepth 100000 in
theorem fX9_findMost_c (k : gK) (σ : St) (x1 : Int32) (x2 : Int32) (r : Unit × St) (hf : fX9_findMost σ x1 x2 = some r) : MC k yX9_findMost wsX9_findMost rm_fX9_findMost [.ref (k.2.2.2.1 0), .int x1, .int x2] (mw k.2.2.2 σ) (none) (mw k.2.2.2 r.2) := by
  refine MC_of (cc := cX9_findMost) (maxL := 8) (ret := none) (own := RX9) (lvs := [(0, .ref (k.2.2.2.1 0)), (1, .int x1), (2, .int x2)]) (by decide) rfl rfl (Nat.le_of_ble_eq_true rfl) rfl (fun X E => ?_)
  unfold fX9_findMost at hf
  refine g_iconst (v := (0 : Int32)) E dX9_findMost_0 (by decide) ?_
  refine g_istore_n E [(3, .int (0 : Int32)), (0, .ref (k.2.2.2.1 0)), (1, .int x1), (2, .int x2)] dX9_findMost_1 rfl (by decide) rfl ?_
  exact g_sub [1, 2, 3, 0] rfl (fX9_findMost_v2 E gF σ x1 x2 (0 : Int32) r hf)
theorem hi_X9_match_X9 : ∀ w ∈ wsX90, w ∈ wsX9_match := by decide +kernel
theorem hk_X9_match_56 : Cond.fieldLink RX9 56 "PaperMarksModel" "mostFrom" "[I" ∈ wsX9_match := by decide +kernel
def rm_fX9_match : Room := { frames := 4, cells := 0, slots := 0, locals := 101 }
set_option maxHeartbeats 4000000 in
set_option maxRecDepth 100000 in
theorem fX9_match_w90 {k : gK} {X : gX} (E : gE k X cX9_match RX9 wsX9_match 7 (some .int) rm_fX9_match) (rc81 : St → Int32 → Int32 → Int32 → Int32 → Int32 → Int32 → Option (Int32 × St)) (hrc81 : ∀ (σ : St) (x1 : Int32) (x2 : Int32) (x3 : Int32) (x4 : Int32) (x5 : Int32) (x6 : Int32) (r : Int32 × St), rc81 σ x1 x2 x3 x4 x5 x6 = some r → G k X 7 (some (.int r.1)) (mw k.2.2.2 r.2) (mw k.2.2.2 σ) [(0, .ref (k.2.2.2.1 0)), (1, .int x1), (2, .int x2), (3, .int x3), (4, .int x4), (5, .int x5), (6, .int x6)] [] 81) (rc90 : St → Int32 → Int32 → Int32 → Int32 → Int32 → Int32 → Option (Int32 × St)) (hrc90 : ∀ (σ : St) (x1 : Int32) (x2 : Int32) (x3 : Int32) (x4 : Int32) (x5 : Int32) (x6 : Int32) (r : Int32 × St), rc90 σ x1 x2 x3 x4 x5 x6 = some r → G k X 7 (some (.int r.1)) (mw k.2.2.2 r.2) (mw k.2.2.2 σ) [(0, .ref (k.2.2.2.1 0)), (1, .int x1), (2, .int x2), (3, .int x3), (4, .int x4), (5, .int x5), (6, .int x6)] [] 90) (σ : St) (x1 : Int32) (x2 : Int32) (x3 : Int32) (x4 : Int32) (x5 : Int32) (x6 : Int32) (r : Int32 × St) (hf : fX9_match_b90 rc81 rc90 σ x1 x2 x3 x4 x5 x6 = some r) : G k X 7 (some (.int r.1)) (mw k.2.2.2 r.2) (mw k.2.2.2 σ) [(0, .ref (k.2.2.2.1 0)), (1, .int x1), (2, .int x2), (3, .int x3), (4, .int x4), (5, .int x5), (6, .int x6)] [] 90 := by
  unfold fX9_match_b90 at hf
  refine g_aload_n E 0 dX9_match_90 rfl rfl ?_
  refine g_iload E 6 dX9_match_91 rfl ?_
  refine g_iload E 4 dX9_match_93 rfl ?_
  refine g_iload E 5 dX9_match_95 rfl ?_
  refine g_iload_n E 1 dX9_match_97 rfl rfl ?_
  refine g_iload_n E 2 dX9_match_98 rfl rfl ?_
  obtain ⟨q1, hq2, hf⟩ := gb hf
  refine g_callV (C := RX9) (T := TX9) (N := 20) (ci := 9) (As := [.int x6, .int x4, .int x5, .int x1, .int x2]) (rest := []) (n := 5) E 0 (fX9_bringsOf_c k σ x6 x4 x5 x1 x2 q1 hq2) gX9_match_X9_bringsOf rfl rfl rfl (by decide +kernel) ⟨Nat.le_of_ble_eq_true rfl, Nat.le_of_ble_eq_true rfl⟩ rfl rfl (Nat.le_of_ble_eq_true rfl) rfl (mwG0 _ _) dX9_match_99 ?_
  refine g_aload_n E 0 dX9_match_102 rfl rfl ?_
  refine g_get (C := RX9) (T := TX9) (N := 20) (ci := 9) E 0 19 (.ref (k.2.2.2.1 16)) hi_X9_match_X9 (mwG0 _ _) rfl (by decide) hk_X9_match_56 rfl dX9_match_103 ?_
  refine g_sipush (v := (15625 : Int32)) E dX9_match_106 (by decide) ?_
  refine g_iload E 6 dX9_match_109 rfl ?_
  refine g_imul E dX9_match_111 ?_
  refine g_iload E 4 dX9_match_112 rfl ?_
  refine g_iadd E dX9_match_114 ?_
  obtain ⟨hi3, hf⟩ := gd hf
  refine g_iald E 16 (q1.2.1 16) (mwG16 _ _) hi3 dX9_match_115 ?_
  refine g_icmp_eq (tgt := 125) E dX9_match_116 (by decide) (fun c4 => ?_) (fun c4 => ?_)
  · have hf := gp hf c4
    refine g_aload_n E 0 dX9_match_125 rfl rfl ?_
    refine g_iload E 4 dX9_match_126 rfl ?_
    refine g_iload E 5 dX9_match_128 rfl ?_
    refine g_iload_n E 2 dX9_match_130 rfl rfl ?_
    obtain ⟨q5, hq6, hf⟩ := gb hf
    refine g_callV (C := RX9) (T := TX9) (N := 20) (ci := 9) (As := [.int x4, .int x5, .int x2]) (rest := []) (n := 3) E 0 (fX9_loadsBy_c k q1.2 x4 x5 x2 q5 hq6) gX9_match_X9_loadsBy rfl rfl rfl (by decide +kernel) ⟨Nat.le_of_ble_eq_true rfl, Nat.le_of_ble_eq_true rfl⟩ rfl rfl (Nat.le_of_ble_eq_true rfl) rfl (mwG0 _ _) dX9_match_131 ?_
    refine g_istore E [(4, .int q5.1), (0, .ref (k.2.2.2.1 0)), (1, .int x1), (2, .int x2), (3, .int x3), (5, .int x5), (6, .int x6)] dX9_match_134 (by decide) rfl ?_
    refine g_iinc E 6 [(6, .int (x6 + (1 : Int32))), (4, .int q5.1), (0, .ref (k.2.2.2.1 0)), (1, .int x1), (2, .int x2), (3, .int x3), (5, .int x5)] (x6 + (1 : Int32)) dX9_match_136 rfl (by rfl) (by decide) rfl ?_
    refine g_goto (tgt := 81) E dX9_match_139 (by decide) ?_
    exact g_sub [2, 3, 4, 5, 1, 6, 0] rfl (hrc81 q5.2 x1 x2 x3 q5.1 x5 (x6 + (1 : Int32)) r hf)
  · have hf := gn hf c4
    refine g_iinc E 5 [(5, .int (x5 + (1 : Int32))), (0, .ref (k.2.2.2.1 0)), (1, .int x1), (2, .int x2), (3, .int x3), (4, .int x4), (6, .int x6)] (x5 + (1 : Int32)) dX9_match_119 rfl (by rfl) (by decide) rfl ?_
    refine g_goto (tgt := 90) E dX9_match_122 (by decide) ?_
    exact g_sub [1, 2, 3, 4, 5, 0, 6] rfl (hrc90 q1.2 x1 x2 x3 x4 (x5 + (1 : Int32)) x6 r hf)
theorem fX9_match_v90 {k : gK} {X : gX} (E : gE k X cX9_match RX9 wsX9_match 7 (some .int) rm_fX9_match) (rc81 : St → Int32 → Int32 → Int32 → Int32 → Int32 → Int32 → Option (Int32 × St)) (hrc81 : ∀ (σ : St) (x1 : Int32) (x2 : Int32) (x3 : Int32) (x4 : Int32) (x5 : Int32) (x6 : Int32) (r : Int32 × St), rc81 σ x1 x2 x3 x4 x5 x6 = some r → G k X 7 (some (.int r.1)) (mw k.2.2.2 r.2) (mw k.2.2.2 σ) [(0, .ref (k.2.2.2.1 0)), (1, .int x1), (2, .int x2), (3, .int x3), (4, .int x4), (5, .int x5), (6, .int x6)] [] 81) : ∀ (n : Nat) (σ : St) (x1 : Int32) (x2 : Int32) (x3 : Int32) (x4 : Int32) (x5 : Int32) (x6 : Int32) (r : Int32 × St), fX9_match_l90 rc81 n σ x1 x2 x3 x4 x5 x6 = some r → G k X 7 (some (.int r.1)) (mw k.2.2.2 r.2) (mw k.2.2.2 σ) [(0, .ref (k.2.2.2.1 0)), (1, .int x1), (2, .int x2), (3, .int x3), (4, .int x4), (5, .int x5), (6, .int x6)] [] 90 := by
  intro n
  induction n with
  | zero => intro σ x1 x2 x3 x4 x5 x6 r hf; cases hf
  | succ n ih => intro σ x1 x2 x3 x4 x5 x6 r hf; exact fX9_match_w90 E rc81 hrc81 (fX9_match_l90 rc81 n) ih σ x1 x2 x3 x4 x5 x6 r hf
set_option maxHeartbeats 4000000 in
set_option maxRecDepth 100000 in
theorem fX9_match_w81 {k : gK} {X : gX} (E : gE k X cX9_match RX9 wsX9_match 7 (some .int) rm_fX9_match) (rc81 : St → Int32 → Int32 → Int32 → Int32 → Int32 → Int32 → Option (Int32 × St)) (hrc81 : ∀ (σ : St) (x1 : Int32) (x2 : Int32) (x3 : Int32) (x4 : Int32) (x5 : Int32) (x6 : Int32) (r : Int32 × St), rc81 σ x1 x2 x3 x4 x5 x6 = some r → G k X 7 (some (.int r.1)) (mw k.2.2.2 r.2) (mw k.2.2.2 σ) [(0, .ref (k.2.2.2.1 0)), (1, .int x1), (2, .int x2), (3, .int x3), (4, .int x4), (5, .int x5), (6, .int x6)] [] 81) (σ : St) (x1 : Int32) (x2 : Int32) (x3 : Int32) (x4 : Int32) (x5 : Int32) (x6 : Int32) (r : Int32 × St) (hf : fX9_match_b81 rc81 σ x1 x2 x3 x4 x5 x6 = some r) : G k X 7 (some (.int r.1)) (mw k.2.2.2 r.2) (mw k.2.2.2 σ) [(0, .ref (k.2.2.2.1 0)), (1, .int x1), (2, .int x2), (3, .int x3), (4, .int x4), (5, .int x5), (6, .int x6)] [] 81 := by
  unfold fX9_match_b81 at hf
  refine g_iload E 6 dX9_match_81 rfl ?_
  refine g_iload_n E 3 dX9_match_83 rfl rfl ?_
  refine g_icmp_gt (tgt := 142) E dX9_match_84 (by decide) (fun c1 => ?_) (fun c1 => ?_)
  · have hf := gp hf c1
    refine g_iload E 5 dX9_match_142 rfl ?_
    cases hf
    exact g_iret E dX9_match_144
  · have hf := gn hf c1
    refine g_iconst (v := (0 : Int32)) E dX9_match_87 (by decide) ?_
    refine g_istore E [(5, .int (0 : Int32)), (0, .ref (k.2.2.2.1 0)), (1, .int x1), (2, .int x2), (3, .int x3), (4, .int x4), (6, .int x6)] dX9_match_88 (by decide) rfl ?_
    exact g_sub [1, 2, 3, 4, 5, 0, 6] rfl (fX9_match_v90 E rc81 hrc81 gF σ x1 x2 x3 x4 (0 : Int32) x6 r hf)
theorem fX9_match_v81 {k : gK} {X : gX} (E : gE k X cX9_match RX9 wsX9_match 7 (some .int) rm_fX9_match) : ∀ (n : Nat) (σ : St) (x1 : Int32) (x2 : Int32) (x3 : Int32) (x4 : Int32) (x5 : Int32) (x6 : Int32) (r : Int32 × St), fX9_match_l81 n σ x1 x2 x3 x4 x5 x6 = some r → G k X 7 (some (.int r.1)) (mw k.2.2.2 r.2) (mw k.2.2.2 σ) [(0, .ref (k.2.2.2.1 0)), (1, .int x1), (2, .int x2), (3, .int x3), (4, .int x4), (5, .int x5), (6, .int x6)] [] 81 := by
  intro n
  induction n with
  | zero => intro σ x1 x2 x3 x4 x5 x6 r hf; cases hf
  | succ n ih => intro σ x1 x2 x3 x4 x5 x6 r hf; exact fX9_match_w81 E (fX9_match_l81 n) ih σ x1 x2 x3 x4 x5 x6 r hf
set_option maxHeartbeats 4000000 in
set_option maxRecDepth 100000 in
theorem fX9_match_w15 {k : gK} {X : gX} (E : gE k X cX9_match RX9 wsX9_match 7 (some .int) rm_fX9_match) (σ : St) (x1 : Int32) (x2 : Int32) (x3 : Int32) (r : Int32 × St) (hf : fX9_match_b15 σ x1 x2 x3 = some r) : G k X 7 (some (.int r.1)) (mw k.2.2.2 r.2) (mw k.2.2.2 σ) [(0, .ref (k.2.2.2.1 0)), (1, .int x1), (2, .int x2), (3, .int x3)] [] 15 := by
  unfold fX9_match_b15 at hf
  refine g_iload_n E 1 dX9_match_15 rfl rfl ?_
  refine g_i2l E dX9_match_16 ?_
  refine g_lconst (v := (1 : Int64)) E dX9_match_17 (by decide) ?_
  refine g_ldc2 (v := (3 : Int64)) E (by decide +kernel) dX9_match_18 ?_
  obtain ⟨q1, hq2, hf⟩ := gb hf
  refine g_callS (As := [.long x1.toInt64, .long (1 : Int64), .long (3 : Int64)]) (rest := []) (n := 3) E (fX9_in_c k σ x1.toInt64 (1 : Int64) (3 : Int64) q1 hq2) gX9_match_X9_in rfl rfl rfl (by decide +kernel) ⟨Nat.le_of_ble_eq_true rfl, Nat.le_of_ble_eq_true rfl⟩ rfl rfl (Nat.le_of_ble_eq_true rfl) dX9_match_21 ?_
  refine g_if_eq (tgt := 39) E dX9_match_24 (by decide) (fun c3 => ?_) (fun c3 => ?_)
  · have hf := gp hf c3
    refine g_bipush (v := (-2 : Int32)) E dX9_match_39 (by decide) ?_
    cases hf
    exact g_iret E dX9_match_41
  · have hf := gn hf c3
    refine g_iload_n E 2 dX9_match_27 rfl rfl ?_
    refine g_i2l E dX9_match_28 ?_
    refine g_lconst (v := (1 : Int64)) E dX9_match_29 (by decide) ?_
    refine g_ldc2 (v := (4 : Int64)) E (by decide +kernel) dX9_match_30 ?_
    obtain ⟨q4, hq5, hf⟩ := gb hf
    refine g_callS (As := [.long x2.toInt64, .long (1 : Int64), .long (4 : Int64)]) (rest := []) (n := 3) E (fX9_in_c k q1.2 x2.toInt64 (1 : Int64) (4 : Int64) q4 hq5) gX9_match_X9_in rfl rfl rfl (by decide +kernel) ⟨Nat.le_of_ble_eq_true rfl, Nat.le_of_ble_eq_true rfl⟩ rfl rfl (Nat.le_of_ble_eq_true rfl) dX9_match_33 ?_
    refine g_if_ne (tgt := 42) E dX9_match_36 (by decide) (fun c6 => ?_) (fun c6 => ?_)
    · have hf := gn hf c6
      refine g_aload_n E 0 dX9_match_42 rfl rfl ?_
      refine g_iload_n E 1 dX9_match_43 rfl rfl ?_
      refine g_iload_n E 2 dX9_match_44 rfl rfl ?_
      obtain ⟨q7, hq8, hf⟩ := gb hf
      refine g_callV (C := RX9) (T := TX9) (N := 20) (ci := 9) (As := [.int x1, .int x2]) (rest := []) (n := 2) E 0 (fX9_findMost_c k q4.2 x1 x2 q7 hq8) gX9_match_X9_findMost rfl rfl rfl (by decide +kernel) ⟨Nat.le_of_ble_eq_true rfl, Nat.le_of_ble_eq_true rfl⟩ rfl rfl (Nat.le_of_ble_eq_true rfl) rfl (mwG0 _ _) dX9_match_45 ?_
      refine g_aload_n E 0 dX9_match_48 rfl rfl ?_
      refine g_get (C := RX9) (T := TX9) (N := 20) (ci := 9) E 0 19 (.ref (k.2.2.2.1 16)) hi_X9_match_X9 (mwG0 _ _) rfl (by decide) hk_X9_match_56 rfl dX9_match_49 ?_
      refine g_iconst (v := (0 : Int32)) E dX9_match_52 (by decide) ?_
      refine g_iald E 16 (q7.2.1 16) (mwG16 _ _) (by decide) dX9_match_53 ?_
      refine g_if_ge (tgt := 60) E dX9_match_54 (by decide) (fun c9 => ?_) (fun c9 => ?_)
      · have hf := gp hf c9
        refine g_iload_n E 3 dX9_match_60 rfl rfl ?_
        refine g_iconst (v := (-1 : Int32)) E dX9_match_61 (by decide) ?_
        refine g_icmp_ne (tgt := 72) E dX9_match_62 (by decide) (fun c10 => ?_) (fun c10 => ?_)
        · have hf := gn hf c10
          refine g_iconst (v := (0 : Int32)) E dX9_match_72 (by decide) ?_
          refine g_istore E [(4, .int (0 : Int32)), (0, .ref (k.2.2.2.1 0)), (1, .int x1), (2, .int x2), (3, .int x3)] dX9_match_73 (by decide) rfl ?_
          refine g_iconst (v := (0 : Int32)) E dX9_match_75 (by decide) ?_
          refine g_istore E [(5, .int (0 : Int32)), (4, .int (0 : Int32)), (0, .ref (k.2.2.2.1 0)), (1, .int x1), (2, .int x2), (3, .int x3)] dX9_match_76 (by decide) rfl ?_
          refine g_iconst (v := (0 : Int32)) E dX9_match_78 (by decide) ?_
          refine g_istore E [(6, .int (0 : Int32)), (5, .int (0 : Int32)), (4, .int (0 : Int32)), (0, .ref (k.2.2.2.1 0)), (1, .int x1), (2, .int x2), (3, .int x3)] dX9_match_79 (by decide) rfl ?_
          exact g_sub [3, 4, 5, 6, 2, 1, 0] rfl (fX9_match_v81 E gF q7.2 x1 x2 x3 (0 : Int32) (0 : Int32) (0 : Int32) r hf)
        · have hf := gp hf c10
          refine g_aload_n E 0 dX9_match_65 rfl rfl ?_
          refine g_get (C := RX9) (T := TX9) (N := 20) (ci := 9) E 0 19 (.ref (k.2.2.2.1 16)) hi_X9_match_X9 (mwG0 _ _) rfl (by decide) hk_X9_match_56 rfl dX9_match_66 ?_
          refine g_iconst (v := (0 : Int32)) E dX9_match_69 (by decide) ?_
          refine g_iald E 16 (q7.2.1 16) (mwG16 _ _) (by decide) dX9_match_70 ?_
          cases hf
          exact g_iret E dX9_match_71
      · have hf := gn hf c9
        refine g_bipush (v := (-5 : Int32)) E dX9_match_57 (by decide) ?_
        cases hf
        exact g_iret E dX9_match_59
    · have hf := gp hf c6
      refine g_bipush (v := (-2 : Int32)) E dX9_match_39 (by decide) ?_
      cases hf
      exact g_iret E dX9_match_41
set_option maxHeartbeats 4000000 in
set_option maxRecDepth 100000 in
theorem fX9_match_c (k : gK) (σ : St) (x1 : Int32) (x2 : Int32) (x3 : Int32) (r : Int32 × St) (hf : fX9_match σ x1 x2 x3 = some r) : MC k yX9_match wsX9_match rm_fX9_match [.ref (k.2.2.2.1 0), .int x1, .int x2, .int x3] (mw k.2.2.2 σ) (some (.int r.1)) (mw k.2.2.2 r.2) := by
  refine MC_of (cc := cX9_match) (maxL := 7) (ret := (some .int)) (own := RX9) (lvs := [(0, .ref (k.2.2.2.1 0)), (1, .int x1), (2, .int x2), (3, .int x3)]) (by decide) rfl rfl (Nat.le_of_ble_eq_true rfl) rfl (fun X E => ?_)
  unfold fX9_match at hf
  refine g_iload_n E 3 dX9_match_0 rfl rfl ?_
  refine g_iconst (v := (-1 : Int32)) E dX9_match_1 (by decide) ?_
  refine g_icmp_eq (tgt := 15) E dX9_match_2 (by decide) (fun c1 => ?_) (fun c1 => ?_)
  · have hf := gp hf c1
    exact fX9_match_w15 E σ x1 x2 x3 r hf
  · have hf := gn hf c1
    refine g_aload_n E 0 dX9_match_5 rfl rfl ?_
    refine g_iload_n E 3 dX9_match_6 rfl rfl ?_
    obtain ⟨q2, hq3, hf⟩ := gb hf
    refine g_callV (C := RX9) (T := TX9) (N := 20) (ci := 9) (As := [.int x3]) (rest := []) (n := 1) E 0 (fX9_isPaper_c k σ x3 q2 hq3) gX9_match_X9_isPaper rfl rfl rfl (by decide +kernel) ⟨Nat.le_of_ble_eq_true rfl, Nat.le_of_ble_eq_true rfl⟩ rfl rfl (Nat.le_of_ble_eq_true rfl) rfl (mwG0 _ _) dX9_match_7 ?_
    refine g_if_ne (tgt := 15) E dX9_match_10 (by decide) (fun c4 => ?_) (fun c4 => ?_)
    · have hf := gn hf c4
      exact fX9_match_w15 E q2.2 x1 x2 x3 r hf
    · have hf := gp hf c4
      refine g_iconst (v := (-1 : Int32)) E dX9_match_13 (by decide) ?_
      cases hf
      exact g_iret E dX9_match_14
