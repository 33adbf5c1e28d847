def rm_fX9_ones : Room := { frames := 0, cells := 0, slots := 0, locals := 0 }
set_option maxHeartbeats 4000000 in
set_option maxRecDepth 100000 in
theorem fX9_ones_w4 {k : gK} {X : gX} (E : gE k X cX9_ones RX9 wsX9_ones 3 (some .int) rm_fX9_ones) (rc4 : St → Int32 → Int32 → Int32 → Option (Int32 × St)) (hrc4 : ∀ (σ : St) (x0 : Int32) (x1 : Int32) (x2 : Int32) (r : Int32 × St), rc4 σ x0 x1 x2 = some r → G k X 3 (some (.int r.1)) (mw k.2.2.2 r.2) (mw k.2.2.2 σ) [(0, .int x0), (1, .int x1), (2, .int x2)] [] 4) (σ : St) (x0 : Int32) (x1 : Int32) (x2 : Int32) (r : Int32 × St) (hf : fX9_ones_b4 rc4 σ x0 x1 x2 = some r) : G k X 3 (some (.int r.1)) (mw k.2.2.2 r.2) (mw k.2.2.2 σ) [(0, .int x0), (1, .int x1), (2, .int x2)] [] 4 := by
  unfold fX9_ones_b4 at hf
  refine g_iload_n E 2 dX9_ones_4 rfl rfl ?_
  refine g_bipush (v := (6 : Int32)) E dX9_ones_5 (by decide) ?_
  refine g_icmp_ge (tgt := 24) E dX9_ones_7 (by decide) (fun c1 => ?_) (fun c1 => ?_)
  · have hf := gp hf c1
    refine g_iload_n E 1 dX9_ones_24 rfl rfl ?_
    have hf := Option.some.inj hf
    subst hf
    exact g_iret E dX9_ones_25
  · have hf := gn hf c1
    refine g_iload_n E 1 dX9_ones_10 rfl rfl ?_
    refine g_iload_n E 0 dX9_ones_11 rfl rfl ?_
    refine g_iload_n E 2 dX9_ones_12 rfl rfl ?_
    refine g_ishr E dX9_ones_13 ?_
    refine g_iconst (v := (1 : Int32)) E dX9_ones_14 (by decide) ?_
    refine g_iand E dX9_ones_15 ?_
    refine g_iadd E dX9_ones_16 ?_
    refine g_istore_n E [(1, .int (x1 + ((((x0 >>> (x2 &&& 31))) &&& (1 : Int32))))), (0, .int x0), (2, .int x2)] dX9_ones_17 rfl (by decide) rfl ?_
    refine g_iinc E 2 [(2, .int (x2 + (1 : Int32))), (1, .int (x1 + ((((x0 >>> (x2 &&& 31))) &&& (1 : Int32))))), (0, .int x0)] (x2 + (1 : Int32)) dX9_ones_18 rfl (by rfl) (by decide) rfl ?_
    refine g_goto (tgt := 4) E dX9_ones_21 (by decide) ?_
    exact g_sub [2, 1, 0] rfl (hrc4 σ x0 (x1 + ((((x0 >>> (x2 &&& 31))) &&& (1 : Int32)))) (x2 + (1 : Int32)) r hf)
theorem fX9_ones_v4 {k : gK} {X : gX} (E : gE k X cX9_ones RX9 wsX9_ones 3 (some .int) rm_fX9_ones) : ∀ (n : Nat) (σ : St) (x0 : Int32) (x1 : Int32) (x2 : Int32) (r : Int32 × St), fX9_ones_l4 n σ x0 x1 x2 = some r → G k X 3 (some (.int r.1)) (mw k.2.2.2 r.2) (mw k.2.2.2 σ) [(0, .int x0), (1, .int x1), (2, .int x2)] [] 4 := by
  intro n
  induction n with
  | zero => intro σ x0 x1 x2 r hf; cases hf
  | succ n ih => intro σ x0 x1 x2 r hf; exact fX9_ones_w4 E (fX9_ones_l4 n) ih σ x0 x1 x2 r hf
set_option maxHeartbeats 4000000 in
set_option maxRecDepth 100000 in
theorem fX9_ones_c (k : gK) (σ : St) (x0 : Int32) (r : Int32 × St) (hf : fX9_ones σ x0 = some r) : MC k yX9_ones wsX9_ones rm_fX9_ones [.int x0] (mw k.2.2.2 σ) (some (.int r.1)) (mw k.2.2.2 r.2) := by
  refine MC_of (cc := cX9_ones) (maxL := 3) (ret := (some .int)) (own := RX9) (lvs := [(0, .int x0)]) (by decide) rfl rfl (Nat.le_of_ble_eq_true rfl) rfl (fun X E => ?_)
  unfold fX9_ones at hf
  refine g_iconst (v := (0 : Int32)) E dX9_ones_0 (by decide) ?_
  refine g_istore_n E [(1, .int (0 : Int32)), (0, .int x0)] dX9_ones_1 rfl (by decide) rfl ?_
  refine g_iconst (v := (0 : Int32)) E dX9_ones_2 (by decide) ?_
  refine g_istore_n E [(2, .int (0 : Int32)), (1, .int (0 : Int32)), (0, .int x0)] dX9_ones_3 rfl (by decide) rfl ?_
  exact g_sub [2, 1, 0] rfl (fX9_ones_v4 E gF σ x0 (0 : Int32) (0 : Int32) r hf)
def rm_fX9_power : Room := { frames := 0, cells := 0, slots := 0, locals := 0 }
set_option maxHeartbeats 4000000 in
set_option maxRecDepth 100000 in
theorem fX9_power_w5 {k : gK} {X : gX} (E : gE k X cX9_power RX9 wsX9_power 6 (some .long) rm_fX9_power) (rc5 : St → Int64 → Int32 → Int64 → Int32 → Option (Int64 × St)) (hrc5 : ∀ (σ : St) (x0 : Int64) (x2 : Int32) (x3 : Int64) (x5 : Int32) (r : Int64 × St), rc5 σ x0 x2 x3 x5 = some r → G k X 6 (some (.long r.1)) (mw k.2.2.2 r.2) (mw k.2.2.2 σ) [(0, .long x0), (2, .int x2), (3, .long x3), (5, .int x5)] [] 5) (σ : St) (x0 : Int64) (x2 : Int32) (x3 : Int64) (x5 : Int32) (r : Int64 × St) (hf : fX9_power_b5 rc5 σ x0 x2 x3 x5 = some r) : G k X 6 (some (.long r.1)) (mw k.2.2.2 r.2) (mw k.2.2.2 σ) [(0, .long x0), (2, .int x2), (3, .long x3), (5, .int x5)] [] 5 := by
  unfold fX9_power_b5 at hf
  refine g_iload E 3 dX9_power_5 rfl ?_
  refine g_iload_n E 1 dX9_power_7 rfl rfl ?_
  refine g_icmp_ge (tgt := 21) E dX9_power_8 (by decide) (fun c1 => ?_) (fun c1 => ?_)
  · have hf := gp hf c1
    refine g_lload_n E 2 dX9_power_21 rfl rfl ?_
    have hf := Option.some.inj hf
    subst hf
    exact g_lret E dX9_power_22
  · have hf := gn hf c1
    refine g_lload_n E 2 dX9_power_11 rfl rfl ?_
    refine g_lload_n E 0 dX9_power_12 rfl rfl ?_
    refine g_lmul E dX9_power_13 ?_
    refine g_lstore_n E [(3, .long (x3 * x0)), (0, .long x0), (2, .int x2), (5, .int x5)] dX9_power_14 rfl (by decide) rfl ?_
    refine g_iinc E 3 [(5, .int (x5 + (1 : Int32))), (3, .long (x3 * x0)), (0, .long x0), (2, .int x2)] (x5 + (1 : Int32)) dX9_power_15 rfl (by rfl) (by decide) rfl ?_
    refine g_goto (tgt := 5) E dX9_power_18 (by decide) ?_
    exact g_sub [2, 3, 1, 0] rfl (hrc5 σ x0 x2 (x3 * x0) (x5 + (1 : Int32)) r hf)
theorem fX9_power_v5 {k : gK} {X : gX} (E : gE k X cX9_power RX9 wsX9_power 6 (some .long) rm_fX9_power) : ∀ (n : Nat) (σ : St) (x0 : Int64) (x2 : Int32) (x3 : Int64) (x5 : Int32) (r : Int64 × St), fX9_power_l5 n σ x0 x2 x3 x5 = some r → G k X 6 (some (.long r.1)) (mw k.2.2.2 r.2) (mw k.2.2.2 σ) [(0, .long x0), (2, .int x2), (3, .long x3), (5, .int x5)] [] 5 := by
  intro n
  induction n with
  | zero => intro σ x0 x2 x3 x5 r hf; cases hf
  | succ n ih => intro σ x0 x2 x3 x5 r hf; exact fX9_power_w5 E (fX9_power_l5 n) ih σ x0 x2 x3 x5 r hf
set_option maxHeartbeats 4000000 in
set_option maxRecDepth 100000 in
theorem fX9_power_c (k : gK) (σ : St) (x0 : Int64) (x2 : Int32) (r : Int64 × St) (hf : fX9_power σ x0 x2 = some r) : MC k yX9_power wsX9_power rm_fX9_power [.long x0, .int x2] (mw k.2.2.2 σ) (some (.long r.1)) (mw k.2.2.2 r.2) := by
  refine MC_of (cc := cX9_power) (maxL := 6) (ret := (some .long)) (own := RX9) (lvs := [(0, .long x0), (2, .int x2)]) (by decide) rfl rfl (Nat.le_of_ble_eq_true rfl) rfl (fun X E => ?_)
  unfold fX9_power at hf
  refine g_lconst (v := (1 : Int64)) E dX9_power_0 (by decide) ?_
  refine g_lstore_n E [(3, .long (1 : Int64)), (0, .long x0), (2, .int x2)] dX9_power_1 rfl (by decide) rfl ?_
  refine g_iconst (v := (0 : Int32)) E dX9_power_2 (by decide) ?_
  refine g_istore E [(5, .int (0 : Int32)), (3, .long (1 : Int64)), (0, .long x0), (2, .int x2)] dX9_power_3 (by decide) rfl ?_
  exact g_sub [2, 3, 1, 0] rfl (fX9_power_v5 E gF σ x0 x2 (1 : Int64) (0 : Int32) r hf)
def rm_fX9_allOf : Room := { frames := 1, cells := 0, slots := 0, locals := 25 }
set_option maxHeartbeats 4000000 in
set_option maxRecDepth 100000 in
theorem fX9_allOf_c (k : gK) (σ : St) (x1 : Int32) (x2 : Int32) (r : Int64 × St) (hf : fX9_allOf σ x1 x2 = some r) : MC k yX9_allOf wsX9_allOf rm_fX9_allOf [.ref (k.2.2.2.1 0), .int x1, .int x2] (mw k.2.2.2 σ) (some (.long r.1)) (mw k.2.2.2 r.2) := by
  refine MC_of (cc := cX9_allOf) (maxL := 3) (ret := (some .long)) (own := RX9) (lvs := [(0, .ref (k.2.2.2.1 0)), (1, .int x1), (2, .int x2)]) (by decide) rfl rfl (Nat.le_of_ble_eq_true rfl) rfl (fun X E => ?_)
  unfold fX9_allOf at hf
  refine g_ldc2 (v := (4 : Int64)) E (by decide +kernel) dX9_allOf_0 ?_
  refine g_aload_n E 0 dX9_allOf_3 rfl rfl ?_
  refine g_iload_n E 1 dX9_allOf_4 rfl rfl ?_
  refine g_iload_n E 2 dX9_allOf_5 rfl rfl ?_
  obtain ⟨q1, hq2, hf⟩ := gb hf
  refine g_callV (C := RX9) (T := TX9) (N := 20) (ci := 9) (As := [.int x1, .int x2]) (rest := [.long (4 : Int64)]) (n := 2) E 0 (fX9_without_c k σ x1 x2 q1 hq2) gX9_allOf_X9_without rfl rfl rfl (by decide +kernel) ⟨Nat.le_of_ble_eq_true rfl, Nat.le_of_ble_eq_true rfl⟩ rfl rfl (Nat.le_of_ble_eq_true rfl) rfl (mwG0 _ _) dX9_allOf_6 ?_
  obtain ⟨q3, hq4, hf⟩ := gb hf
  refine g_callS (As := [.int q1.1]) (rest := [.long (4 : Int64)]) (n := 1) E (fX9_ones_c k q1.2 q1.1 q3 hq4) gX9_allOf_X9_ones rfl rfl rfl (by decide +kernel) ⟨Nat.le_of_ble_eq_true rfl, Nat.le_of_ble_eq_true rfl⟩ rfl rfl (Nat.le_of_ble_eq_true rfl) dX9_allOf_9 ?_
  refine g_iconst (v := (1 : Int32)) E dX9_allOf_12 (by decide) ?_
  refine g_iadd E dX9_allOf_13 ?_
  obtain ⟨q5, hq6, hf⟩ := gb hf
  refine g_callS (As := [.long (4 : Int64), .int (q3.1 + (1 : Int32))]) (rest := []) (n := 2) E (fX9_power_c k q3.2 (4 : Int64) ((q3.1 + (1 : Int32))) q5 hq6) gX9_allOf_X9_power rfl rfl rfl (by decide +kernel) ⟨Nat.le_of_ble_eq_true rfl, Nat.le_of_ble_eq_true rfl⟩ rfl rfl (Nat.le_of_ble_eq_true rfl) dX9_allOf_14 ?_
  have hf := Option.some.inj hf
  subst hf
  exact g_lret E dX9_allOf_17
def rm_fX9_lowest : Room := { frames := 0, cells := 0, slots := 0, locals := 0 }
set_option maxHeartbeats 4000000 in
set_option maxRecDepth 100000 in
theorem fX9_lowest_w17 {k : gK} {X : gX} (E : gE k X cX9_lowest RX9 wsX9_lowest 11 (some .long) rm_fX9_lowest) (rc17 : St → Int64 → Int64 → Int32 → Int64 → Int64 → Option (Int64 × St)) (hrc17 : ∀ (σ : St) (x0 : Int64) (x2 : Int64) (x4 : Int32) (x5 : Int64) (x7 : Int64) (r : Int64 × St), rc17 σ x0 x2 x4 x5 x7 = some r → G k X 11 (some (.long r.1)) (mw k.2.2.2 r.2) (mw k.2.2.2 σ) [(0, .long x0), (2, .long x2), (4, .int x4), (5, .long x5), (7, .long x7)] [] 17) (σ : St) (x0 : Int64) (x2 : Int64) (x4 : Int32) (x5 : Int64) (x7 : Int64) (r : Int64 × St) (hf : fX9_lowest_b17 rc17 σ x0 x2 x4 x5 x7 = some r) : G k X 11 (some (.long r.1)) (mw k.2.2.2 r.2) (mw k.2.2.2 σ) [(0, .long x0), (2, .long x2), (4, .int x4), (5, .long x5), (7, .long x7)] [] 17 := by
  unfold fX9_lowest_b17 at hf
  refine g_lload E 4 dX9_lowest_17 rfl ?_
  refine g_lconst (v := (0 : Int64)) E dX9_lowest_19 (by decide) ?_
  refine g_lcmp E dX9_lowest_20 ?_
  refine g_if_eq (tgt := 42) E dX9_lowest_21 (by decide) (fun c1 => ?_) (fun c1 => ?_)
  · have hf := gp hf c1
    refine g_iload E 2 dX9_lowest_42 rfl ?_
    refine g_if_ne (tgt := 54) E dX9_lowest_44 (by decide) (fun c2 => ?_) (fun c2 => ?_)
    · have hf := gn hf c2
      refine g_lload_n E 1 dX9_lowest_54 rfl rfl ?_
      refine g_lload E 3 dX9_lowest_55 rfl ?_
      obtain ⟨hn3, hf⟩ := gd hf
      refine g_ldiv E hn3 dX9_lowest_57 ?_
      have hf := Option.some.inj hf
      subst hf
      exact g_lret E dX9_lowest_58
    · have hf := gp hf c2
      refine g_lload_n E 0 dX9_lowest_47 rfl rfl ?_
      refine g_lload E 3 dX9_lowest_48 rfl ?_
      obtain ⟨hn4, hf⟩ := gd hf
      refine g_ldiv E hn4 dX9_lowest_50 ?_
      refine g_goto (tgt := 58) E dX9_lowest_51 (by decide) ?_
      have hf := Option.some.inj hf
      subst hf
      exact g_lret E dX9_lowest_58
  · have hf := gn hf c1
    refine g_lload E 3 dX9_lowest_24 rfl ?_
    refine g_lload E 4 dX9_lowest_26 rfl ?_
    obtain ⟨hn5, hf⟩ := gd hf
    refine g_lrem E hn5 dX9_lowest_28 ?_
    refine g_lstore E [(9, .long (x5 - x5 / x7 * x7)), (0, .long x0), (2, .long x2), (4, .int x4), (5, .long x5), (7, .long x7)] dX9_lowest_29 (by decide) rfl ?_
    refine g_lload E 5 dX9_lowest_31 rfl ?_
    refine g_lstore E [(5, .long x7), (9, .long (x5 - x5 / x7 * x7)), (0, .long x0), (2, .long x2), (4, .int x4), (7, .long x7)] dX9_lowest_33 (by decide) rfl ?_
    refine g_lload E 1 dX9_lowest_35 rfl ?_
    refine g_lstore E [(7, .long (x5 - x5 / x7 * x7)), (5, .long x7), (9, .long (x5 - x5 / x7 * x7)), (0, .long x0), (2, .long x2), (4, .int x4)] dX9_lowest_37 (by decide) rfl ?_
    refine g_goto (tgt := 17) E dX9_lowest_39 (by decide) ?_
    exact g_sub [3, 4, 5, 1, 0] rfl (hrc17 σ x0 x2 x4 x7 (x5 - x5 / x7 * x7) r hf)
theorem fX9_lowest_v17 {k : gK} {X : gX} (E : gE k X cX9_lowest RX9 wsX9_lowest 11 (some .long) rm_fX9_lowest) : ∀ (n : Nat) (σ : St) (x0 : Int64) (x2 : Int64) (x4 : Int32) (x5 : Int64) (x7 : Int64) (r : Int64 × St), fX9_lowest_l17 n σ x0 x2 x4 x5 x7 = some r → G k X 11 (some (.long r.1)) (mw k.2.2.2 r.2) (mw k.2.2.2 σ) [(0, .long x0), (2, .long x2), (4, .int x4), (5, .long x5), (7, .long x7)] [] 17 := by
  intro n
  induction n with
  | zero => intro σ x0 x2 x4 x5 x7 r hf; cases hf
  | succ n ih => intro σ x0 x2 x4 x5 x7 r hf; exact fX9_lowest_w17 E (fX9_lowest_l17 n) ih σ x0 x2 x4 x5 x7 r hf
set_option maxHeartbeats 4000000 in
set_option maxRecDepth 100000 in
theorem fX9_lowest_w12 {k : gK} {X : gX} (E : gE k X cX9_lowest RX9 wsX9_lowest 11 (some .long) rm_fX9_lowest) (σ : St) (x0 : Int64) (x2 : Int64) (x4 : Int32) (t0 : Int64) (r : Int64 × St) (hf : fX9_lowest_b12 σ x0 x2 x4 t0 = some r) : G k X 11 (some (.long r.1)) (mw k.2.2.2 r.2) (mw k.2.2.2 σ) [(0, .long x0), (2, .long x2), (4, .int x4)] [.long t0] 12 := by
  unfold fX9_lowest_b12 at hf
  refine g_lstore E [(5, .long t0), (0, .long x0), (2, .long x2), (4, .int x4)] dX9_lowest_12 (by decide) rfl ?_
  refine g_lload_n E 2 dX9_lowest_14 rfl rfl ?_
  refine g_lstore E [(7, .long x2), (5, .long t0), (0, .long x0), (2, .long x2), (4, .int x4)] dX9_lowest_15 (by decide) rfl ?_
  exact g_sub [2, 3, 4, 1, 0] rfl (fX9_lowest_v17 E gF σ x0 x2 x4 t0 x2 r hf)
set_option maxHeartbeats 4000000 in
set_option maxRecDepth 100000 in
theorem fX9_lowest_c (k : gK) (σ : St) (x0 : Int64) (x2 : Int64) (x4 : Int32) (r : Int64 × St) (hf : fX9_lowest σ x0 x2 x4 = some r) : MC k yX9_lowest wsX9_lowest rm_fX9_lowest [.long x0, .long x2, .int x4] (mw k.2.2.2 σ) (some (.long r.1)) (mw k.2.2.2 r.2) := by
  refine MC_of (cc := cX9_lowest) (maxL := 11) (ret := (some .long)) (own := RX9) (lvs := [(0, .long x0), (2, .long x2), (4, .int x4)]) (by decide) rfl rfl (Nat.le_of_ble_eq_true rfl) rfl (fun X E => ?_)
  unfold fX9_lowest at hf
  refine g_lload_n E 0 dX9_lowest_0 rfl rfl ?_
  refine g_lconst (v := (0 : Int64)) E dX9_lowest_1 (by decide) ?_
  refine g_lcmp E dX9_lowest_2 ?_
  refine g_if_ge (tgt := 11) E dX9_lowest_3 (by decide) (fun c1 => ?_) (fun c1 => ?_)
  · have hf := gp hf c1
    refine g_lload_n E 0 dX9_lowest_11 rfl rfl ?_
    exact fX9_lowest_w12 E σ x0 x2 x4 x0 r hf
  · have hf := gn hf c1
    refine g_lload_n E 0 dX9_lowest_6 rfl rfl ?_
    refine g_lneg E dX9_lowest_7 ?_
    refine g_goto (tgt := 12) E dX9_lowest_8 (by decide) ?_
    exact fX9_lowest_w12 E σ x0 x2 x4 (-x0) r hf
theorem hi_X9_taken_X9 : ∀ w ∈ wsX90, w ∈ wsX9_taken := by decide +kernel
theorem hk_X9_taken_118 : Cond.fieldLink RX9 118 "PaperMarksModel" "clauses" "I" ∈ wsX9_taken := by decide +kernel
def rm_fX9_taken : Room := { frames := 3, cells := 0, slots := 0, locals := 82 }
set_option maxHeartbeats 4000000 in
set_option maxRecDepth 100000 in
theorem fX9_taken_c (k : gK) (σ : St) (x1 : Int32) (x2 : Int32) (x3 : Int32) (r : Int64 × St) (hf : fX9_taken σ x1 x2 x3 = some r) : MC k yX9_taken wsX9_taken rm_fX9_taken [.ref (k.2.2.2.1 0), .int x1, .int x2, .int x3] (mw k.2.2.2 σ) (some (.long r.1)) (mw k.2.2.2 r.2) := by
  refine MC_of (cc := cX9_taken) (maxL := 4) (ret := (some .long)) (own := RX9) (lvs := [(0, .ref (k.2.2.2.1 0)), (1, .int x1), (2, .int x2), (3, .int x3)]) (by decide) rfl rfl (Nat.le_of_ble_eq_true rfl) rfl (fun X E => ?_)
  unfold fX9_taken at hf
  refine g_aload_n E 0 dX9_taken_0 rfl rfl ?_
  refine g_iload_n E 1 dX9_taken_1 rfl rfl ?_
  obtain ⟨q1, hq2, hf⟩ := gb hf
  refine g_callV (C := RX9) (T := TX9) (N := 20) (ci := 9) (As := [.int x1]) (rest := []) (n := 1) E 0 (fX9_isPaper_c k σ x1 q1 hq2) gX9_taken_X9_isPaper rfl rfl rfl (by decide +kernel) ⟨Nat.le_of_ble_eq_true rfl, Nat.le_of_ble_eq_true rfl⟩ rfl rfl (Nat.le_of_ble_eq_true rfl) rfl (mwG0 _ _) dX9_taken_2 ?_
  refine g_if_ne (tgt := 12) E dX9_taken_5 (by decide) (fun c3 => ?_) (fun c3 => ?_)
  · have hf := gn hf c3
    refine g_aload_n E 0 dX9_taken_12 rfl rfl ?_
    refine g_iload_n E 2 dX9_taken_13 rfl rfl ?_
    obtain ⟨q4, hq5, hf⟩ := gb hf
    refine g_callV (C := RX9) (T := TX9) (N := 20) (ci := 9) (As := [.int x2]) (rest := []) (n := 1) E 0 (fX9_isSet_c k q1.2 x2 q4 hq5) gX9_taken_X9_isSet rfl rfl rfl (by decide +kernel) ⟨Nat.le_of_ble_eq_true rfl, Nat.le_of_ble_eq_true rfl⟩ rfl rfl (Nat.le_of_ble_eq_true rfl) rfl (mwG0 _ _) dX9_taken_14 ?_
    refine g_if_eq (tgt := 27) E dX9_taken_17 (by decide) (fun c6 => ?_) (fun c6 => ?_)
    · have hf := gp hf c6
      refine g_ldc2 (v := (-1000000000000000002 : Int64)) E (by decide +kernel) dX9_taken_27 ?_
      have hf := Option.some.inj hf
      subst hf
      exact g_lret E dX9_taken_30
    · have hf := gn hf c6
      refine g_iload_n E 3 dX9_taken_20 rfl rfl ?_
      obtain ⟨q7, hq8, hf⟩ := gb hf
      refine g_callS (As := [.int x3]) (rest := []) (n := 1) E (fX9_isPart_c k q4.2 x3 q7 hq8) gX9_taken_X9_isPart rfl rfl rfl (by decide +kernel) ⟨Nat.le_of_ble_eq_true rfl, Nat.le_of_ble_eq_true rfl⟩ rfl rfl (Nat.le_of_ble_eq_true rfl) dX9_taken_21 ?_
      refine g_if_ne (tgt := 31) E dX9_taken_24 (by decide) (fun c9 => ?_) (fun c9 => ?_)
      · have hf := gn hf c9
        refine g_aload_n E 0 dX9_taken_31 rfl rfl ?_
        refine g_get (C := RX9) (T := TX9) (N := 20) (ci := 9) E 0 17 (.int (q7.2.2.1 3)) hi_X9_taken_X9 (mwG0 _ _) rfl (by decide) hk_X9_taken_118 rfl dX9_taken_32 ?_
        refine g_if_ne (tgt := 44) E dX9_taken_35 (by decide) (fun c10 => ?_) (fun c10 => ?_)
        · have hf := gn hf c10
          refine g_aload_n E 0 dX9_taken_44 rfl rfl ?_
          refine g_iload_n E 1 dX9_taken_45 rfl rfl ?_
          refine g_iload_n E 2 dX9_taken_46 rfl rfl ?_
          obtain ⟨q11, hq12, hf⟩ := gb hf
          refine g_callV (C := RX9) (T := TX9) (N := 20) (ci := 9) (As := [.int x1, .int x2]) (rest := []) (n := 2) E 0 (fX9_takenOf_c k q7.2 x1 x2 q11 hq12) gX9_taken_X9_takenOf rfl rfl rfl (by decide +kernel) ⟨Nat.le_of_ble_eq_true rfl, Nat.le_of_ble_eq_true rfl⟩ rfl rfl (Nat.le_of_ble_eq_true rfl) rfl (mwG0 _ _) dX9_taken_47 ?_
          refine g_aload_n E 0 dX9_taken_50 rfl rfl ?_
          refine g_iload_n E 1 dX9_taken_51 rfl rfl ?_
          refine g_iload_n E 2 dX9_taken_52 rfl rfl ?_
          obtain ⟨q13, hq14, hf⟩ := gb hf
          refine g_callV (C := RX9) (T := TX9) (N := 20) (ci := 9) (As := [.int x1, .int x2]) (rest := [.long q11.1]) (n := 2) E 0 (fX9_allOf_c k q11.2 x1 x2 q13 hq14) gX9_taken_X9_allOf rfl rfl rfl (by decide +kernel) ⟨Nat.le_of_ble_eq_true rfl, Nat.le_of_ble_eq_true rfl⟩ rfl rfl (Nat.le_of_ble_eq_true rfl) rfl (mwG0 _ _) dX9_taken_53 ?_
          refine g_iload_n E 3 dX9_taken_56 rfl rfl ?_
          obtain ⟨q15, hq16, hf⟩ := gb hf
          refine g_callS (As := [.long q11.1, .long q13.1, .int x3]) (rest := []) (n := 3) E (fX9_lowest_c k q13.2 q11.1 q13.1 x3 q15 hq16) gX9_taken_X9_lowest rfl rfl rfl (by decide +kernel) ⟨Nat.le_of_ble_eq_true rfl, Nat.le_of_ble_eq_true rfl⟩ rfl rfl (Nat.le_of_ble_eq_true rfl) dX9_taken_57 ?_
          have hf := Option.some.inj hf
          subst hf
          exact g_lret E dX9_taken_60
        · have hf := gp hf c10
          refine g_ldc2 (v := (-1000000000000000003 : Int64)) E (by decide +kernel) dX9_taken_38 ?_
          refine g_goto (tgt := 60) E dX9_taken_41 (by decide) ?_
          have hf := Option.some.inj hf
          subst hf
          exact g_lret E dX9_taken_60
      · have hf := gp hf c9
        refine g_ldc2 (v := (-1000000000000000002 : Int64)) E (by decide +kernel) dX9_taken_27 ?_
        have hf := Option.some.inj hf
        subst hf
        exact g_lret E dX9_taken_30
  · have hf := gp hf c3
    refine g_ldc2 (v := (-1000000000000000001 : Int64)) E (by decide +kernel) dX9_taken_8 ?_
    have hf := Option.some.inj hf
    subst hf
    exact g_lret E dX9_taken_11
