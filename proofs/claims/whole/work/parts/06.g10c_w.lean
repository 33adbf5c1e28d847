theorem hi_X9_seen_X9 : ∀ w ∈ wsX90, w ∈ wsX9_seen := by decide +kernel
theorem hk_X9_seen_63 : Cond.fieldLink RX9 63 "PaperMarksModel" "judges" "I" ∈ wsX9_seen := by decide +kernel
theorem hk_X9_seen_25 : Cond.fieldLink RX9 25 "PaperMarksModel" "writers" "[I" ∈ wsX9_seen := by decide +kernel
theorem hk_X9_seen_28 : Cond.fieldLink RX9 28 "PaperMarksModel" "paperKeys" "[I" ∈ wsX9_seen := by decide +kernel
theorem hk_X9_seen_16 : Cond.fieldLink RX9 16 "PaperMarksModel" "judgeKeys" "[I" ∈ wsX9_seen := by decide +kernel
def rm_fX9_seen : Room := { frames := 2, cells := 0, slots := 0, locals := 46 }
set_option maxHeartbeats 4000000 in
set_option maxRecDepth 100000 in
theorem fX9_seen_w101 {k : gK} {X : gX} (E : gE k X cX9_seen RX9 wsX9_seen 5 (some .int) rm_fX9_seen) (σ : St) (x2 : Int32) (x3 : Int32) (t0 : Int32) (r : Int32 × St) (hf : fX9_seen_b101 σ x2 x3 t0 = some r) : G k X 5 (some (.int r.1)) (mw k.2.2.2 r.2) (mw k.2.2.2 σ) [(2, .int x2), (3, .int x3)] [.int t0] 101 := by
  unfold fX9_seen_b101 at hf
  refine g_istore E [(4, .int t0), (2, .int x2), (3, .int x3)] dX9_seen_101 (by decide) rfl ?_
  refine g_iload_n E 1 dX9_seen_103 rfl rfl ?_
  refine g_if_ne (tgt := 111) E dX9_seen_104 (by decide) (fun c1 => ?_) (fun c1 => ?_)
  · have hf := gn hf c1
    refine g_iload E 0 dX9_seen_111 rfl ?_
    refine g_if_eq (tgt := 120) E dX9_seen_113 (by decide) (fun c2 => ?_) (fun c2 => ?_)
    · have hf := gp hf c2
      refine g_iconst (v := (0 : Int32)) E dX9_seen_120 (by decide) ?_
      have hf := Option.some.inj hf
      subst hf
      exact g_iret E dX9_seen_121
    · have hf := gn hf c2
      refine g_iconst (v := (1 : Int32)) E dX9_seen_116 (by decide) ?_
      refine g_goto (tgt := 121) E dX9_seen_117 (by decide) ?_
      have hf := Option.some.inj hf
      subst hf
      exact g_iret E dX9_seen_121
  · have hf := gp hf c1
    refine g_iload_n E 2 dX9_seen_107 rfl rfl ?_
    refine g_goto (tgt := 121) E dX9_seen_108 (by decide) ?_
    have hf := Option.some.inj hf
    subst hf
    exact g_iret E dX9_seen_121
set_option maxHeartbeats 4000000 in
set_option maxRecDepth 100000 in
theorem fX9_seen_w100 {k : gK} {X : gX} (E : gE k X cX9_seen RX9 wsX9_seen 5 (some .int) rm_fX9_seen) (σ : St) (x2 : Int32) (x3 : Int32) (r : Int32 × St) (hf : fX9_seen_b100 σ x2 x3 = some r) : G k X 5 (some (.int r.1)) (mw k.2.2.2 r.2) (mw k.2.2.2 σ) [(2, .int x2), (3, .int x3)] [] 100 := by
  unfold fX9_seen_b100 at hf
  refine g_iconst (v := (0 : Int32)) E dX9_seen_100 (by decide) ?_
  exact fX9_seen_w101 E σ x2 x3 (0 : Int32) r hf
set_option maxHeartbeats 4000000 in
set_option maxRecDepth 100000 in
theorem fX9_seen_w65 {k : gK} {X : gX} (E : gE k X cX9_seen RX9 wsX9_seen 5 (some .int) rm_fX9_seen) (rc28 : St → Int32 → Int32 → Int32 → Int32 → Option (Int32 × St)) (hrc28 : ∀ (σ : St) (x1 : Int32) (x2 : Int32) (x3 : Int32) (x4 : Int32) (r : Int32 × St), rc28 σ x1 x2 x3 x4 = some r → G k X 5 (some (.int r.1)) (mw k.2.2.2 r.2) (mw k.2.2.2 σ) [(0, .ref (k.2.2.2.1 0)), (1, .int x1), (2, .int x2), (3, .int x3), (4, .int x4)] [] 28) (σ : St) (x1 : Int32) (x2 : Int32) (x4 : Int32) (t0 : Int32) (t1 : Int32) (r : Int32 × St) (hf : fX9_seen_b65 rc28 σ x1 x2 x4 t0 t1 = some r) : G k X 5 (some (.int r.1)) (mw k.2.2.2 r.2) (mw k.2.2.2 σ) [(0, .ref (k.2.2.2.1 0)), (1, .int x1), (2, .int x2), (4, .int x4)] [.int t1, .int t0] 65 := by
  unfold fX9_seen_b65 at hf
  refine g_ior E dX9_seen_65 ?_
  refine g_istore_n E [(3, .int (t0 ||| t1)), (0, .ref (k.2.2.2.1 0)), (1, .int x1), (2, .int x2), (4, .int x4)] dX9_seen_66 rfl (by decide) rfl ?_
  refine g_iinc E 4 [(4, .int (x4 + (1 : Int32))), (3, .int (t0 ||| t1)), (0, .ref (k.2.2.2.1 0)), (1, .int x1), (2, .int x2)] (x4 + (1 : Int32)) dX9_seen_67 rfl (by rfl) (by decide) rfl ?_
  refine g_goto (tgt := 28) E dX9_seen_70 (by decide) ?_
  exact g_sub [2, 3, 4, 1, 0] rfl (hrc28 σ x1 x2 (t0 ||| t1) (x4 + (1 : Int32)) r hf)
set_option maxHeartbeats 4000000 in
set_option maxRecDepth 100000 in
theorem fX9_seen_w28 {k : gK} {X : gX} (E : gE k X cX9_seen RX9 wsX9_seen 5 (some .int) rm_fX9_seen) (rc28 : St → Int32 → Int32 → Int32 → Int32 → Option (Int32 × St)) (hrc28 : ∀ (σ : St) (x1 : Int32) (x2 : Int32) (x3 : Int32) (x4 : Int32) (r : Int32 × St), rc28 σ x1 x2 x3 x4 = some r → G k X 5 (some (.int r.1)) (mw k.2.2.2 r.2) (mw k.2.2.2 σ) [(0, .ref (k.2.2.2.1 0)), (1, .int x1), (2, .int x2), (3, .int x3), (4, .int x4)] [] 28) (σ : St) (x1 : Int32) (x2 : Int32) (x3 : Int32) (x4 : Int32) (r : Int32 × St) (hf : fX9_seen_b28 rc28 σ x1 x2 x3 x4 = some r) : G k X 5 (some (.int r.1)) (mw k.2.2.2 r.2) (mw k.2.2.2 σ) [(0, .ref (k.2.2.2.1 0)), (1, .int x1), (2, .int x2), (3, .int x3), (4, .int x4)] [] 28 := by
  unfold fX9_seen_b28 at hf
  refine g_iload E 4 dX9_seen_28 rfl ?_
  refine g_aload_n E 0 dX9_seen_30 rfl rfl ?_
  refine g_get (C := RX9) (T := TX9) (N := 20) (ci := 9) E 0 3 (.int (σ.2.1 0)) hi_X9_seen_X9 (mwG0 _ _) rfl (by decide) hk_X9_seen_63 rfl dX9_seen_31 ?_
  refine g_icmp_ge (tgt := 73) E dX9_seen_34 (by decide) (fun c1 => ?_) (fun c1 => ?_)
  · have hf := gp hf c1
    refine g_aload_n E 0 dX9_seen_73 rfl rfl ?_
    refine g_get (C := RX9) (T := TX9) (N := 20) (ci := 9) E 0 6 (.ref (k.2.2.2.1 6)) hi_X9_seen_X9 (mwG0 _ _) rfl (by decide) hk_X9_seen_25 rfl dX9_seen_74 ?_
    refine g_iload_n E 1 dX9_seen_77 rfl rfl ?_
    obtain ⟨hi2, hf⟩ := gd hf
    refine g_iald E 6 (σ.1 6) (mwG6 _ _) hi2 dX9_seen_78 ?_
    refine g_bipush (v := (-6 : Int32)) E dX9_seen_79 (by decide) ?_
    refine g_icmp_eq (tgt := 100) E dX9_seen_81 (by decide) (fun c3 => ?_) (fun c3 => ?_)
    · have hf := gp hf c3
      exact g_sub [2, 3] rfl (fX9_seen_w100 E σ x2 x3 r hf)
    · have hf := gn hf c3
      refine g_iload_n E 3 dX9_seen_84 rfl rfl ?_
      refine g_iconst (v := (1 : Int32)) E dX9_seen_85 (by decide) ?_
      refine g_aload_n E 0 dX9_seen_86 rfl rfl ?_
      refine g_get (C := RX9) (T := TX9) (N := 20) (ci := 9) E 0 6 (.ref (k.2.2.2.1 6)) hi_X9_seen_X9 (mwG0 _ _) rfl (by decide) hk_X9_seen_25 rfl dX9_seen_87 ?_
      refine g_iload_n E 1 dX9_seen_90 rfl rfl ?_
      obtain ⟨hi4, hf⟩ := gd hf
      refine g_iald E 6 (σ.1 6) (mwG6 _ _) hi4 dX9_seen_91 ?_
      refine g_ishl E dX9_seen_92 ?_
      refine g_icmp_ne (tgt := 100) E dX9_seen_93 (by decide) (fun c5 => ?_) (fun c5 => ?_)
      · have hf := gn hf c5
        exact g_sub [2, 3] rfl (fX9_seen_w100 E σ x2 x3 r hf)
      · have hf := gp hf c5
        refine g_iconst (v := (1 : Int32)) E dX9_seen_96 (by decide) ?_
        refine g_goto (tgt := 101) E dX9_seen_97 (by decide) ?_
        exact g_sub [2, 3] rfl (fX9_seen_w101 E σ x2 x3 (1 : Int32) r hf)
  · have hf := gn hf c1
    refine g_iload_n E 3 dX9_seen_37 rfl rfl ?_
    refine g_aload_n E 0 dX9_seen_38 rfl rfl ?_
    refine g_get (C := RX9) (T := TX9) (N := 20) (ci := 9) E 0 7 (.ref (k.2.2.2.1 7)) hi_X9_seen_X9 (mwG0 _ _) rfl (by decide) hk_X9_seen_28 rfl dX9_seen_39 ?_
    refine g_iload_n E 1 dX9_seen_42 rfl rfl ?_
    obtain ⟨hi6, hf⟩ := gd hf
    refine g_iald E 7 (σ.1 7) (mwG7 _ _) hi6 dX9_seen_43 ?_
    refine g_aload_n E 0 dX9_seen_44 rfl rfl ?_
    refine g_get (C := RX9) (T := TX9) (N := 20) (ci := 9) E 0 2 (.ref (k.2.2.2.1 3)) hi_X9_seen_X9 (mwG0 _ _) rfl (by decide) hk_X9_seen_16 rfl dX9_seen_45 ?_
    refine g_iload E 4 dX9_seen_48 rfl ?_
    obtain ⟨hi7, hf⟩ := gd hf
    refine g_iald E 3 (σ.1 3) (mwG3 _ _) hi7 dX9_seen_50 ?_
    refine g_iconst (v := (-1 : Int32)) E dX9_seen_51 (by decide) ?_
    refine g_ixor E dX9_seen_52 ?_
    refine g_iand E dX9_seen_53 ?_
    refine g_if_ne (tgt := 64) E dX9_seen_54 (by decide) (fun c8 => ?_) (fun c8 => ?_)
    · have hf := gn hf c8
      refine g_iconst (v := (0 : Int32)) E dX9_seen_64 (by decide) ?_
      exact g_sub [0, 1, 2, 4] rfl (fX9_seen_w65 E rc28 hrc28 σ x1 x2 x4 x3 (0 : Int32) r hf)
    · have hf := gp hf c8
      refine g_iconst (v := (1 : Int32)) E dX9_seen_57 (by decide) ?_
      refine g_iload E 4 dX9_seen_58 rfl ?_
      refine g_ishl E dX9_seen_60 ?_
      refine g_goto (tgt := 65) E dX9_seen_61 (by decide) ?_
      exact g_sub [0, 1, 2, 4] rfl (fX9_seen_w65 E rc28 hrc28 σ x1 x2 x4 x3 ((1 : Int32) <<< (x4 &&& 31)) r hf)
theorem fX9_seen_v28 {k : gK} {X : gX} (E : gE k X cX9_seen RX9 wsX9_seen 5 (some .int) rm_fX9_seen) : ∀ (n : Nat) (σ : St) (x1 : Int32) (x2 : Int32) (x3 : Int32) (x4 : Int32) (r : Int32 × St), fX9_seen_l28 n σ x1 x2 x3 x4 = some r → G k X 5 (some (.int r.1)) (mw k.2.2.2 r.2) (mw k.2.2.2 σ) [(0, .ref (k.2.2.2.1 0)), (1, .int x1), (2, .int x2), (3, .int x3), (4, .int x4)] [] 28 := by
  intro n
  induction n with
  | zero => intro σ x1 x2 x3 x4 r hf; cases hf
  | succ n ih => intro σ x1 x2 x3 x4 r hf; exact fX9_seen_w28 E (fX9_seen_l28 n) ih σ x1 x2 x3 x4 r hf
set_option maxHeartbeats 4000000 in
set_option maxRecDepth 100000 in
theorem fX9_seen_c (k : gK) (σ : St) (x1 : Int32) (x2 : Int32) (r : Int32 × St) (hf : fX9_seen σ x1 x2 = some r) : MC k yX9_seen wsX9_seen rm_fX9_seen [.ref (k.2.2.2.1 0), .int x1, .int x2] (mw k.2.2.2 σ) (some (.int r.1)) (mw k.2.2.2 r.2) := by
  refine MC_of (cc := cX9_seen) (maxL := 5) (ret := (some .int)) (own := RX9) (lvs := [(0, .ref (k.2.2.2.1 0)), (1, .int x1), (2, .int x2)]) (by decide) rfl rfl (Nat.le_of_ble_eq_true rfl) rfl (fun X E => ?_)
  unfold fX9_seen at hf
  refine g_aload_n E 0 dX9_seen_0 rfl rfl ?_
  refine g_iload_n E 1 dX9_seen_1 rfl rfl ?_
  obtain ⟨q1, hq2, hf⟩ := gb hf
  refine g_callV (C := RX9) (T := TX9) (N := 20) (ci := 9) (As := [.int x1]) (rest := []) (n := 1) E 0 (fX9_isPaper_c k σ x1 q1 hq2) gX9_seen_X9_isPaper rfl rfl rfl (by decide +kernel) ⟨Nat.le_of_ble_eq_true rfl, Nat.le_of_ble_eq_true rfl⟩ rfl rfl (Nat.le_of_ble_eq_true rfl) rfl (mwG0 _ _) dX9_seen_2 ?_
  refine g_if_ne (tgt := 10) E dX9_seen_5 (by decide) (fun c3 => ?_) (fun c3 => ?_)
  · have hf := gn hf c3
    refine g_iload_n E 2 dX9_seen_10 rfl rfl ?_
    refine g_i2l E dX9_seen_11 ?_
    refine g_lconst (v := (0 : Int64)) E dX9_seen_12 (by decide) ?_
    refine g_lconst (v := (1 : Int64)) E dX9_seen_13 (by decide) ?_
    obtain ⟨q4, hq5, hf⟩ := gb hf
    refine g_callS (As := [.long x2.toInt64, .long (0 : Int64), .long (1 : Int64)]) (rest := []) (n := 3) E (fX9_in_c k q1.2 x2.toInt64 (0 : Int64) (1 : Int64) q4 hq5) gX9_seen_X9_in rfl rfl rfl (by decide +kernel) ⟨Nat.le_of_ble_eq_true rfl, Nat.le_of_ble_eq_true rfl⟩ rfl rfl (Nat.le_of_ble_eq_true rfl) dX9_seen_14 ?_
    refine g_if_ne (tgt := 23) E dX9_seen_17 (by decide) (fun c6 => ?_) (fun c6 => ?_)
    · have hf := gn hf c6
      refine g_iconst (v := (0 : Int32)) E dX9_seen_23 (by decide) ?_
      refine g_istore_n E [(3, .int (0 : Int32)), (0, .ref (k.2.2.2.1 0)), (1, .int x1), (2, .int x2)] dX9_seen_24 rfl (by decide) rfl ?_
      refine g_iconst (v := (0 : Int32)) E dX9_seen_25 (by decide) ?_
      refine g_istore E [(4, .int (0 : Int32)), (3, .int (0 : Int32)), (0, .ref (k.2.2.2.1 0)), (1, .int x1), (2, .int x2)] dX9_seen_26 (by decide) rfl ?_
      exact g_sub [2, 3, 4, 1, 0] rfl (fX9_seen_v28 E gF q4.2 x1 x2 (0 : Int32) (0 : Int32) r hf)
    · have hf := gp hf c6
      refine g_bipush (v := (-2 : Int32)) E dX9_seen_20 (by decide) ?_
      have hf := Option.some.inj hf
      subst hf
      exact g_iret E dX9_seen_22
  · have hf := gp hf c3
    refine g_iconst (v := (-1 : Int32)) E dX9_seen_8 (by decide) ?_
    have hf := Option.some.inj hf
    subst hf
    exact g_iret E dX9_seen_9
theorem hi_X9_bid_X9 : ∀ w ∈ wsX90, w ∈ wsX9_bid := by decide +kernel
theorem hk_X9_bid_37 : Cond.fieldLink RX9 37 "PaperMarksModel" "bids" "[I" ∈ wsX9_bid := by decide +kernel
def rm_fX9_bid : Room := { frames := 2, cells := 0, slots := 0, locals := 46 }
set_option maxHeartbeats 4000000 in
set_option maxRecDepth 100000 in
theorem fX9_bid_c (k : gK) (σ : St) (x1 : Int32) (x2 : Int32) (x3 : Int32) (r : Int32 × St) (hf : fX9_bid σ x1 x2 x3 = some r) : MC k yX9_bid wsX9_bid rm_fX9_bid [.ref (k.2.2.2.1 0), .int x1, .int x2, .int x3] (mw k.2.2.2 σ) (some (.int r.1)) (mw k.2.2.2 r.2) := by
  refine MC_of (cc := cX9_bid) (maxL := 5) (ret := (some .int)) (own := RX9) (lvs := [(0, .ref (k.2.2.2.1 0)), (1, .int x1), (2, .int x2), (3, .int x3)]) (by decide) rfl rfl (Nat.le_of_ble_eq_true rfl) rfl (fun X E => ?_)
  unfold fX9_bid at hf
  refine g_aload_n E 0 dX9_bid_0 rfl rfl ?_
  refine g_iload_n E 1 dX9_bid_1 rfl rfl ?_
  obtain ⟨q1, hq2, hf⟩ := gb hf
  refine g_callV (C := RX9) (T := TX9) (N := 20) (ci := 9) (As := [.int x1]) (rest := []) (n := 1) E 0 (fX9_isJudge_c k σ x1 q1 hq2) gX9_bid_X9_isJudge rfl rfl rfl (by decide +kernel) ⟨Nat.le_of_ble_eq_true rfl, Nat.le_of_ble_eq_true rfl⟩ rfl rfl (Nat.le_of_ble_eq_true rfl) rfl (mwG0 _ _) dX9_bid_2 ?_
  refine g_if_eq (tgt := 16) E dX9_bid_5 (by decide) (fun c3 => ?_) (fun c3 => ?_)
  · have hf := gp hf c3
    refine g_iconst (v := (-1 : Int32)) E dX9_bid_16 (by decide) ?_
    have hf := Option.some.inj hf
    subst hf
    exact g_iret E dX9_bid_17
  · have hf := gn hf c3
    refine g_aload_n E 0 dX9_bid_8 rfl rfl ?_
    refine g_iload_n E 2 dX9_bid_9 rfl rfl ?_
    obtain ⟨q4, hq5, hf⟩ := gb hf
    refine g_callV (C := RX9) (T := TX9) (N := 20) (ci := 9) (As := [.int x2]) (rest := []) (n := 1) E 0 (fX9_isPaper_c k q1.2 x2 q4 hq5) gX9_bid_X9_isPaper rfl rfl rfl (by decide +kernel) ⟨Nat.le_of_ble_eq_true rfl, Nat.le_of_ble_eq_true rfl⟩ rfl rfl (Nat.le_of_ble_eq_true rfl) rfl (mwG0 _ _) dX9_bid_10 ?_
    refine g_if_ne (tgt := 18) E dX9_bid_13 (by decide) (fun c6 => ?_) (fun c6 => ?_)
    · have hf := gn hf c6
      refine g_iload_n E 3 dX9_bid_18 rfl rfl ?_
      refine g_i2l E dX9_bid_19 ?_
      refine g_lconst (v := (0 : Int64)) E dX9_bid_20 (by decide) ?_
      refine g_ldc2 (v := (3 : Int64)) E (by decide +kernel) dX9_bid_21 ?_
      obtain ⟨q7, hq8, hf⟩ := gb hf
      refine g_callS (As := [.long x3.toInt64, .long (0 : Int64), .long (3 : Int64)]) (rest := []) (n := 3) E (fX9_in_c k q4.2 x3.toInt64 (0 : Int64) (3 : Int64) q7 hq8) gX9_bid_X9_in rfl rfl rfl (by decide +kernel) ⟨Nat.le_of_ble_eq_true rfl, Nat.le_of_ble_eq_true rfl⟩ rfl rfl (Nat.le_of_ble_eq_true rfl) dX9_bid_24 ?_
      refine g_if_ne (tgt := 33) E dX9_bid_27 (by decide) (fun c9 => ?_) (fun c9 => ?_)
      · have hf := gn hf c9
        refine g_aload_n E 0 dX9_bid_33 rfl rfl ?_
        refine g_get (C := RX9) (T := TX9) (N := 20) (ci := 9) E 0 11 (.ref (k.2.2.2.1 10)) hi_X9_bid_X9 (mwG0 _ _) rfl (by decide) hk_X9_bid_37 rfl dX9_bid_34 ?_
        refine g_iload_n E 1 dX9_bid_37 rfl rfl ?_
        refine g_iload_n E 2 dX9_bid_38 rfl rfl ?_
        obtain ⟨q10, hq11, hf⟩ := gb hf
        refine g_callS (As := [.int x1, .int x2]) (rest := [.ref (k.2.2.2.1 10)]) (n := 2) E (fX9_at_c k q7.2 x1 x2 q10 hq11) gX9_bid_X9_at rfl rfl rfl (by decide +kernel) ⟨Nat.le_of_ble_eq_true rfl, Nat.le_of_ble_eq_true rfl⟩ rfl rfl (Nat.le_of_ble_eq_true rfl) dX9_bid_39 ?_
        obtain ⟨hi12, hf⟩ := gd hf
        refine g_iald E 10 (q10.2.1 10) (mwG10 _ _) hi12 dX9_bid_42 ?_
        refine g_istore E [(4, .int (q10.2.1 10 q10.1.toNatClampNeg)), (0, .ref (k.2.2.2.1 0)), (1, .int x1), (2, .int x2), (3, .int x3)] dX9_bid_43 (by decide) rfl ?_
        refine g_aload_n E 1 dX9_bid_45 rfl rfl ?_
        refine g_get (C := RX9) (T := TX9) (N := 20) (ci := 9) E 0 11 (.ref (k.2.2.2.1 10)) hi_X9_bid_X9 (mwG0 _ _) rfl (by decide) hk_X9_bid_37 rfl dX9_bid_46 ?_
        refine g_iload_n E 2 dX9_bid_49 rfl rfl ?_
        refine g_iload_n E 3 dX9_bid_50 rfl rfl ?_
        obtain ⟨q13, hq14, hf⟩ := gb hf
        refine g_callS (As := [.int x1, .int x2]) (rest := [.ref (k.2.2.2.1 10)]) (n := 2) E (fX9_at_c k q10.2 x1 x2 q13 hq14) gX9_bid_X9_at rfl rfl rfl (by decide +kernel) ⟨Nat.le_of_ble_eq_true rfl, Nat.le_of_ble_eq_true rfl⟩ rfl rfl (Nat.le_of_ble_eq_true rfl) dX9_bid_51 ?_
        refine g_iload_n E 4 dX9_bid_54 rfl rfl ?_
        obtain ⟨hi15, hf⟩ := gd hf
        refine g_iast E 10 (mw k.2.2.2 (uA q13.2 10 q13.1.toNatClampNeg x3)) (q13.2.1 10) (mwG10 _ _) hi15 (mwA10 _ _ _ _) dX9_bid_55 ?_
        refine g_iload E 0 dX9_bid_56 rfl ?_
        have hf := Option.some.inj hf
        subst hf
        exact g_iret E dX9_bid_58
      · have hf := gp hf c9
        refine g_bipush (v := (-2 : Int32)) E dX9_bid_30 (by decide) ?_
        have hf := Option.some.inj hf
        subst hf
        exact g_iret E dX9_bid_32
    · have hf := gp hf c6
      refine g_iconst (v := (-1 : Int32)) E dX9_bid_16 (by decide) ?_
      have hf := Option.some.inj hf
      subst hf
      exact g_iret E dX9_bid_17
theorem hi_X9_bidsOf_X9 : ∀ w ∈ wsX90, w ∈ wsX9_bidsOf := by decide +kernel
theorem hk_X9_bidsOf_63 : Cond.fieldLink RX9 63 "PaperMarksModel" "judges" "I" ∈ wsX9_bidsOf := by decide +kernel
theorem hk_X9_bidsOf_37 : Cond.fieldLink RX9 37 "PaperMarksModel" "bids" "[I" ∈ wsX9_bidsOf := by decide +kernel
def rm_fX9_bidsOf : Room := { frames := 1, cells := 0, slots := 0, locals := 21 }
set_option maxHeartbeats 4000000 in
set_option maxRecDepth 100000 in
theorem fX9_bidsOf_w40 {k : gK} {X : gX} (E : gE k X cX9_bidsOf RX9 wsX9_bidsOf 5 (some .int) rm_fX9_bidsOf) (rc5 : St → Int32 → Int32 → Int32 → Int32 → Option (Int32 × St)) (hrc5 : ∀ (σ : St) (x1 : Int32) (x2 : Int32) (x3 : Int32) (x4 : Int32) (r : Int32 × St), rc5 σ x1 x2 x3 x4 = some r → G k X 5 (some (.int r.1)) (mw k.2.2.2 r.2) (mw k.2.2.2 σ) [(0, .ref (k.2.2.2.1 0)), (1, .int x1), (2, .int x2), (3, .int x3), (4, .int x4)] [] 5) (σ : St) (x1 : Int32) (x2 : Int32) (x4 : Int32) (t0 : Int32) (t1 : Int32) (r : Int32 × St) (hf : fX9_bidsOf_b40 rc5 σ x1 x2 x4 t0 t1 = some r) : G k X 5 (some (.int r.1)) (mw k.2.2.2 r.2) (mw k.2.2.2 σ) [(0, .ref (k.2.2.2.1 0)), (1, .int x1), (2, .int x2), (4, .int x4)] [.int t1, .int t0] 40 := by
  unfold fX9_bidsOf_b40 at hf
  refine g_iadd E dX9_bidsOf_40 ?_
  refine g_istore_n E [(3, .int (t0 + t1)), (0, .ref (k.2.2.2.1 0)), (1, .int x1), (2, .int x2), (4, .int x4)] dX9_bidsOf_41 rfl (by decide) rfl ?_
  refine g_iinc E 4 [(4, .int (x4 + (1 : Int32))), (3, .int (t0 + t1)), (0, .ref (k.2.2.2.1 0)), (1, .int x1), (2, .int x2)] (x4 + (1 : Int32)) dX9_bidsOf_42 rfl (by rfl) (by decide) rfl ?_
  refine g_goto (tgt := 5) E dX9_bidsOf_45 (by decide) ?_
  exact g_sub [2, 3, 4, 1, 0] rfl (hrc5 σ x1 x2 (t0 + t1) (x4 + (1 : Int32)) r hf)
set_option maxHeartbeats 4000000 in
set_option maxRecDepth 100000 in
theorem fX9_bidsOf_w5 {k : gK} {X : gX} (E : gE k X cX9_bidsOf RX9 wsX9_bidsOf 5 (some .int) rm_fX9_bidsOf) (rc5 : St → Int32 → Int32 → Int32 → Int32 → Option (Int32 × St)) (hrc5 : ∀ (σ : St) (x1 : Int32) (x2 : Int32) (x3 : Int32) (x4 : Int32) (r : Int32 × St), rc5 σ x1 x2 x3 x4 = some r → G k X 5 (some (.int r.1)) (mw k.2.2.2 r.2) (mw k.2.2.2 σ) [(0, .ref (k.2.2.2.1 0)), (1, .int x1), (2, .int x2), (3, .int x3), (4, .int x4)] [] 5) (σ : St) (x1 : Int32) (x2 : Int32) (x3 : Int32) (x4 : Int32) (r : Int32 × St) (hf : fX9_bidsOf_b5 rc5 σ x1 x2 x3 x4 = some r) : G k X 5 (some (.int r.1)) (mw k.2.2.2 r.2) (mw k.2.2.2 σ) [(0, .ref (k.2.2.2.1 0)), (1, .int x1), (2, .int x2), (3, .int x3), (4, .int x4)] [] 5 := by
  unfold fX9_bidsOf_b5 at hf
  refine g_iload E 4 dX9_bidsOf_5 rfl ?_
  refine g_aload_n E 0 dX9_bidsOf_7 rfl rfl ?_
  refine g_get (C := RX9) (T := TX9) (N := 20) (ci := 9) E 0 3 (.int (σ.2.1 0)) hi_X9_bidsOf_X9 (mwG0 _ _) rfl (by decide) hk_X9_bidsOf_63 rfl dX9_bidsOf_8 ?_
  refine g_icmp_ge (tgt := 48) E dX9_bidsOf_11 (by decide) (fun c1 => ?_) (fun c1 => ?_)
  · have hf := gp hf c1
    refine g_iload_n E 3 dX9_bidsOf_48 rfl rfl ?_
    have hf := Option.some.inj hf
    subst hf
    exact g_iret E dX9_bidsOf_49
  · have hf := gn hf c1
    refine g_iload_n E 3 dX9_bidsOf_14 rfl rfl ?_
    refine g_iload_n E 2 dX9_bidsOf_15 rfl rfl ?_
    refine g_iload E 4 dX9_bidsOf_16 rfl ?_
    refine g_ishr E dX9_bidsOf_18 ?_
    refine g_iconst (v := (1 : Int32)) E dX9_bidsOf_19 (by decide) ?_
    refine g_iand E dX9_bidsOf_20 ?_
    refine g_iconst (v := (1 : Int32)) E dX9_bidsOf_21 (by decide) ?_
    refine g_icmp_ne (tgt := 39) E dX9_bidsOf_22 (by decide) (fun c2 => ?_) (fun c2 => ?_)
    · have hf := gn hf c2
      refine g_iconst (v := (0 : Int32)) E dX9_bidsOf_39 (by decide) ?_
      exact g_sub [0, 1, 2, 4] rfl (fX9_bidsOf_w40 E rc5 hrc5 σ x1 x2 x4 x3 (0 : Int32) r hf)
    · have hf := gp hf c2
      refine g_aload_n E 0 dX9_bidsOf_25 rfl rfl ?_
      refine g_get (C := RX9) (T := TX9) (N := 20) (ci := 9) E 0 11 (.ref (k.2.2.2.1 10)) hi_X9_bidsOf_X9 (mwG0 _ _) rfl (by decide) hk_X9_bidsOf_37 rfl dX9_bidsOf_26 ?_
      refine g_iload E 4 dX9_bidsOf_29 rfl ?_
      refine g_iload_n E 1 dX9_bidsOf_31 rfl rfl ?_
      obtain ⟨q3, hq4, hf⟩ := gb hf
      refine g_callS (As := [.int x4, .int x1]) (rest := [.ref (k.2.2.2.1 10), .int x3]) (n := 2) E (fX9_at_c k σ x4 x1 q3 hq4) gX9_bidsOf_X9_at rfl rfl rfl (by decide +kernel) ⟨Nat.le_of_ble_eq_true rfl, Nat.le_of_ble_eq_true rfl⟩ rfl rfl (Nat.le_of_ble_eq_true rfl) dX9_bidsOf_32 ?_
      obtain ⟨hi5, hf⟩ := gd hf
      refine g_iald E 10 (q3.2.1 10) (mwG10 _ _) hi5 dX9_bidsOf_35 ?_
      refine g_goto (tgt := 40) E dX9_bidsOf_36 (by decide) ?_
      exact g_sub [0, 1, 2, 4] rfl (fX9_bidsOf_w40 E rc5 hrc5 q3.2 x1 x2 x4 x3 (q3.2.1 10 q3.1.toNatClampNeg) r hf)
theorem fX9_bidsOf_v5 {k : gK} {X : gX} (E : gE k X cX9_bidsOf RX9 wsX9_bidsOf 5 (some .int) rm_fX9_bidsOf) : ∀ (n : Nat) (σ : St) (x1 : Int32) (x2 : Int32) (x3 : Int32) (x4 : Int32) (r : Int32 × St), fX9_bidsOf_l5 n σ x1 x2 x3 x4 = some r → G k X 5 (some (.int r.1)) (mw k.2.2.2 r.2) (mw k.2.2.2 σ) [(0, .ref (k.2.2.2.1 0)), (1, .int x1), (2, .int x2), (3, .int x3), (4, .int x4)] [] 5 := by
  intro n
  induction n with
  | zero => intro σ x1 x2 x3 x4 r hf; cases hf
  | succ n ih => intro σ x1 x2 x3 x4 r hf; exact fX9_bidsOf_w5 E (fX9_bidsOf_l5 n) ih σ x1 x2 x3 x4 r hf
set_option maxHeartbeats 4000000 in
set_option maxRecDepth 100000 in
theorem fX9_bidsOf_c (k : gK) (σ : St) (x1 : Int32) (x2 : Int32) (r : Int32 × St) (hf : fX9_bidsOf σ x1 x2 = some r) : MC k yX9_bidsOf wsX9_bidsOf rm_fX9_bidsOf [.ref (k.2.2.2.1 0), .int x1, .int x2] (mw k.2.2.2 σ) (some (.int r.1)) (mw k.2.2.2 r.2) := by
  refine MC_of (cc := cX9_bidsOf) (maxL := 5) (ret := (some .int)) (own := RX9) (lvs := [(0, .ref (k.2.2.2.1 0)), (1, .int x1), (2, .int x2)]) (by decide) rfl rfl (Nat.le_of_ble_eq_true rfl) rfl (fun X E => ?_)
  unfold fX9_bidsOf at hf
  refine g_iconst (v := (0 : Int32)) E dX9_bidsOf_0 (by decide) ?_
  refine g_istore_n E [(3, .int (0 : Int32)), (0, .ref (k.2.2.2.1 0)), (1, .int x1), (2, .int x2)] dX9_bidsOf_1 rfl (by decide) rfl ?_
  refine g_iconst (v := (0 : Int32)) E dX9_bidsOf_2 (by decide) ?_
  refine g_istore E [(4, .int (0 : Int32)), (3, .int (0 : Int32)), (0, .ref (k.2.2.2.1 0)), (1, .int x1), (2, .int x2)] dX9_bidsOf_3 (by decide) rfl ?_
  exact g_sub [2, 3, 4, 1, 0] rfl (fX9_bidsOf_v5 E gF σ x1 x2 (0 : Int32) (0 : Int32) r hf)
