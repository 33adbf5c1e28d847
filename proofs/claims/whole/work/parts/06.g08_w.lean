def rm_fX9_ones : Room := { frames := 0, cells := 0, slots := 0, locals := 0 }
set_option maxHeartbeats 4000000 in
set_option maxRecDepth 100000 in
theorem fX9_ones_w4 {k : gK} {X : gX} (E : gE k X cX9_ones RX9 wsX9_ones 3 (some .int) rm_fX9_ones) (rc4 : St → Int32 → Int32 → Int32 → Option (Int32 × St)) (hrc4 : ∀ (σ : St) (x0 : Int32) (x1 : Int32) (x2 : Int32) (r : Int32 × St), rc4 σ x0 x1 x2 = some r → G k X 3 (some (.int r.1)) (mw k.2.2.2 r.2) (mw k.2.2.2 σ) [(0, .int x0), (1, .int x1), (2, .int x2)] [] 4) (σ : St) (x0 : Int32) (x1 : Int32) (x2 : Int32) (r : Int32 × St) (hf : fX9_ones_b4 rc4 σ x0 x1 x2 = some r) : G k X 3 (some (.int r.1)) (mw k.2.2.2 r.2) (mw k.2.2.2 σ) [(0, .int x0), (1, .int x1), (2, .int x2)] [] 4 := by
  unfold fX9_ones_b4 at hf
  refine g_iload_n E 2 dX9_ones_4 rfl rfl ?_
  refine g_bipush (v := (6 : Int32)) E dX9_ones_5 (by decide) ?_
  refine g_icmp_ge (tgt := 24) E dX9_ones_7 (by decide) (fun c1 => ?_) (fun c1 => ?_)
  · have hf := gp hf c1
    refine g_iload_n E 1 dX9_ones_24 rfl rfl ?_
    cases hf
    exact g_iret E dX9_ones_25
  · have hf := gn hf c1
    refine g_iload_n E 1 dX9_ones_10 rfl rfl ?_
    refine g_iload_n E 0 dX9_ones_11 rfl rfl ?_
    refine g_iload_n E 2 dX9_ones_12 rfl rfl ?_
    refine g_ishr E dX9_ones_13 ?_
    refine g_iconst (v := (1 : Int32)) E dX9_ones_14 (by decide) ?_
    refine g_iand E dX9_ones_15 ?_
    refine g_iadd E dX9_ones_16 ?_
    refine g_istore_n E [(1, .int (x1 + ((((x0 >>> (x2 &&& 31))) &&& (1 : Int32))))), (0, .int x0), (2, .int x2)] dX9_ones_17 rfl (by decide) rfl ?_
    refine g_iinc E 2 [(2, .int (x2 + (1 : Int32))), (1, .int (x1 + ((((x0 >>> (x2 &&& 31))) &&& (1 : Int32))))), (0, .int x0)] (x2 + (1 : Int32)) dX9_ones_18 rfl (by rfl) (by decide) rfl ?_
    refine g_goto (tgt := 4) E dX9_ones_21 (by decide) ?_
    exact g_sub [2, 1, 0] rfl (hrc4 σ x0 (x1 + ((((x0 >>> (x2 &&& 31))) &&& (1 : Int32)))) (x2 + (1 : Int32)) r hf)
theorem fX9_ones_v4 {k : gK} {X : gX} (E : gE k X cX9_ones RX9 wsX9_ones 3 (some .int) rm_fX9_ones) : ∀ (n : Nat) (σ : St) (x0 : Int32) (x1 : Int32) (x2 : Int32) (r : Int32 × St), fX9_ones_l4 n σ x0 x1 x2 = some r → G k X 3 (some (.int r.1)) (mw k.2.2.2 r.2) (mw k.2.2.2 σ) [(0, .int x0), (1, .int x1), (2, .int x2)] [] 4 := by
  intro n
  induction n with
  | zero => intro σ x0 x1 x2 r hf; cases hf
  | succ n ih => intro σ x0 x1 x2 r hf; exact fX9_ones_w4 E (fX9_ones_l4 n) ih σ x0 x1 x2 r hf
set_option maxHeartbeats 4000000 in
set_option maxRecDepth 100000 in
theorem fX9_ones_c (k : gK) (σ : St) (x0 : Int32) (r : Int32 × St) (hf : fX9_ones σ x0 = some r) : MC k yX9_ones wsX9_ones rm_fX9_ones [.int x0] (mw k.2.2.2 σ) (some (.int r.1)) (mw k.2.2.2 r.2) := by
  refine MC_of (cc := cX9_ones) (maxL := 3) (ret := (some .int)) (own := RX9) (lvs := [(0, .int x0)]) (by decide) rfl rfl (Nat.le_of_ble_eq_true rfl) rfl (fun X E => ?_)
  unfold fX9_ones at hf
  refine g_iconst (v := (0 : Int32)) E dX9_ones_0 (by decide) ?_
  refine g_istore_n E [(1, .int (0 : Int32)), (0, .int x0)] dX9_ones_1 rfl (by decide) rfl ?_
  refine g_iconst (v := (0 : Int32)) E dX9_ones_2 (by decide) ?_
  refine g_istore_n E [(2, .int (0 : Int32)), (1, .int (0 : Int32)), (0, .int x0)] dX9_ones_3 rfl (by decide) rfl ?_
  exact g_sub [2, 1, 0] rfl (fX9_ones_v4 E gF σ x0 (0 : Int32) (0 : Int32) r hf)
def rm_fX9_power : Room := { frames := 0, cells := 0, slots := 0, locals := 0 }
set_option maxHeartbeats 4000000 in
set_option maxRecDepth 100000 in
theorem fX9_power_w5 {k : gK} {X : gX} (E : gE k X cX9_power RX9 wsX9_power 6 (some .long) rm_fX9_power) (rc5 : St → Int64 → Int32 → Int64 → Int32 → Option (Int64 × St)) (hrc5 : ∀ (σ : St) (x0 : Int64) (x2 : Int32) (x3 : Int64) (x5 : Int32) (r : Int64 × St), rc5 σ x0 x2 x3 x5 = some r → G k X 6 (some (.long r.1)) (mw k.2.2.2 r.2) (mw k.2.2.2 σ) [(0, .long x0), (2, .int x2), (3, .long x3), (5, .int x5)] [] 5) (σ : St) (x0 : Int64) (x2 : Int32) (x3 : Int64) (x5 : Int32) (r : Int64 × St) (hf : fX9_power_b5 rc5 σ x0 x2 x3 x5 = some r) : G k X 6 (some (.long r.1)) (mw k.2.2.2 r.2) (mw k.2.2.2 σ) [(0, .long x0), (2, .int x2), (3, .long x3), (5, .int x5)] [] 5 := by
  unfold fX9_power_b5 at hf
  refine g_iload E 3 dX9_power_5 rfl ?_
  refine g_iload_n E 1 dX9_power_7 rfl rfl ?_
  refine g_icmp_ge (tgt := 21) E dX9_power_8 (by decide) (fun c1 => ?_) (fun c1 => ?_)
  · have hf := gp hf c1
    refine g_lload_n E 2 dX9_power_21 rfl rfl ?_
    cases hf
    exact g_lret E dX9_power_22
  · have hf := gn hf c1
    refine g_lload_n E 2 dX9_power_11 rfl rfl ?_
    refine g_lload_n E 0 dX9_power_12 rfl rfl ?_
    refine g_lmul E dX9_power_13 ?_
    refine g_lstore_n E [(3, .long (x3 * x0)), (0, .long x0), (2, .int x2), (5, .int x5)] dX9_power_14 rfl (by decide) rfl ?_
    refine g_iinc E 3 [(5, .int (x5 + (1 : Int32))), (3, .long (x3 * x0)), (0, .long x0), (2, .int x2)] (x5 + (1 : Int32)) dX9_power_15 rfl (by rfl) (by decide) rfl ?_
    refine g_goto (tgt := 5) E dX9_power_18 (by decide) ?_
    exact g_sub [2, 3, 1, 0] rfl (hrc5 σ x0 x2 (x3 * x0) (x5 + (1 : Int32)) r hf)
theorem fX9_power_v5 {k : gK} {X : gX} (E : gE k X cX9_power RX9 wsX9_power 6 (some .long) rm_fX9_power) : ∀ (n : Nat) (σ : St) (x0 : Int64) (x2 : Int32) (x3 : Int64) (x5 : Int32) (r : Int64 × St), fX9_power_l5 n σ x0 x2 x3 x5 = some r → G k X 6 (some (.long r.1)) (mw k.2.2.2 r.2) (mw k.2.2.2 σ) [(0, .long x0), (2, .int x2), (3, .long x3), (5, .int x5)] [] 5 := by
  intro n
  induction n with
  | zero => intro σ x0 x2 x3 x5 r hf; cases hf
  | succ n ih => intro σ x0 x2 x3 x5 r hf; exact fX9_power_w5 E (fX9_power_l5 n) ih σ x0 x2 x3 x5 r hf
set_option maxHeartbeats 4000000 in
set_option maxRecDepth 100000 in
theorem fX9_power_c (k : gK) (σ : St) (x0 : Int64) (x2 : Int32) (r : Int64 × St) (hf : fX9_power σ x0 x2 = some r) : MC k yX9_power wsX9_power rm_fX9_power [.long x0, .int x2] (mw k.2.2.2 σ) (some (.long r.1)) (mw k.2.2.2 r.2) := by
  refine MC_of (cc := cX9_power) (maxL := 6) (ret := (some .long)) (own := RX9) (lvs := [(0, .long x0), (2, .int x2)]) (by decide) rfl rfl (Nat.le_of_ble_eq_true rfl) rfl (fun X E => ?_)
  unfold fX9_power at hf
  refine g_lconst (v := (1 : Int64)) E dX9_power_0 (by decide) ?_
  refine g_lstore_n E [(3, .long (1 : Int64)), (0, .long x0), (2, .int x2)] dX9_power_1 rfl (by decide) rfl ?_
  refine g_iconst (v := (0 : Int32)) E dX9_power_2 (by decide) ?_
  refine g_istore E [(5, .int (0 : Int32)), (3, .long (1 : Int64)), (0, .long x0), (2, .int x2)] dX9_power_3 (by decide) rfl ?_
  exact g_sub [2, 3, 1, 0] rfl (fX9_power_v5 E gF σ x0 x2 (1 : Int64) (0 : Int32) r hf)
def rm_fX9_allOf : Room := { frames := 1, cells := 0, slots := 0, locals := 25 }
set_option maxHeartbeats 4000000 in
set_option maxRecDepth 100000 in
theorem fX9_allOf_c (k : gK) (σ : St) (x1 : Int32) (x2 : Int32) (r : Int64 × St) (hf : fX9_allOf σ x1 x2 = some r) : MC k yX9_allOf wsX9_allOf rm_fX9_allOf [.ref (k.2.2.2.1 0), .int x1, .int x2] (mw k.2.2.2 σ) (some (.long r.1)) (mw k.2.2.2 r.2) := by
  refine MC_of (cc := cX9_allOf) (maxL := 3) (ret := (some .long)) (own := RX9) (lvs := [(0, .ref (k.2.2.2.1 0)), (1, .int x1), (2, .int x2)]) (by decide) rfl rfl (Nat.le_of_ble_eq_true rfl) rfl (fun X E => ?_)
  unfold fX9_allOf at hf
  refine g_ldc2 (v := (4 : Int64)) E (by decide +kernel) dX9_allOf_0 ?_
  refine g_aload_n E 0 dX9_allOf_3 rfl rfl ?_
  refine g_iload_n E 1 dX9_allOf_4 rfl rfl ?_
  refine g_iload_n E 2 dX9_allOf_5 rfl rfl ?_
  obtain ⟨q1, hq2, hf⟩ := gb hf
  refine g_callV (C := RX9) (T := TX9) (N := 20) (ci := 9) (As := [.int x1, .int x2]) (rest := [.long (4 : Int64)]) (n := 2) E 0 (fX9_without_c k σ x1 x2 q1 hq2) gX9_allOf_X9_without rfl rfl rfl (by decide +kernel) ⟨Nat.le_of_ble_eq_true rfl, Nat.le_of_ble_eq_true rfl⟩ rfl rfl (Nat.le_of_ble_eq_true rfl) rfl (mwG0 _ _) dX9_allOf_6 ?_
  obtain ⟨q3, hq4, hf⟩ := gb hf
  refine g_callS (As := [.int q1.1]) (rest := [.long (4 : Int64)]) (n := 1) E (fX9_ones_c k q1.2 q1.1 q3 hq4) gX9_allOf_X9_ones rfl rfl rfl (by decide +kernel) ⟨Nat.le_of_ble_eq_true rfl, Nat.le_of_ble_eq_true rfl⟩ rfl rfl (Nat.le_of_ble_eq_true rfl) dX9_allOf_9 ?_
  refine g_iconst (v := (1 : Int32)) E dX9_allOf_12 (by decide) ?_
  refine g_iadd E dX9_allOf_13 ?_
  obtain ⟨q5, hq6, hf⟩ := gb hf
  refine g_callS (As := [.long (4 : Int64), .int (q3.1 + (1 : Int32))]) (rest := []) (n := 2) E (fX9_power_c k q3.2 (4 : Int64) ((q3.1 + (1 : Int32))) q5 hq6) gX9_allOf_X9_power rfl rfl rfl (by decide +kernel) ⟨Nat.le_of_ble_eq_true rfl, Nat.le_of_ble_eq_true rfl⟩ rfl rfl (Nat.le_of_ble_eq_true rfl) dX9_allOf_14 ?_
  cases hf
  exact g_lret E dX9_allOf_17
def rm_fX9_lowest : Room := { frames := 0, cells := 0, slots := 0, locals := 0 }
set_option maxHeartbeats 4000000 in
set_option maxRecDepth 100000 in
theorem fX9_lowest_w17 {k : gK} {X : gX} (E : gE k X cX9_lowest RX9 wsX9_lowest 11 (some .long) rm_fX9_lowest) (rc17 : St → Int64 → Int64 → Int32 → Int64 → Int64 → Option (Int64 × St)) (hrc17 : ∀ (σ : St) (x0 : Int64) (x2 : Int64) (x4 : Int32) (x5 : Int64) (x7 : Int64) (r : Int64 × St), rc17 σ x0 x2 x4 x5 x7 = some r → G k X 11 (some (.long r.1)) (mw k.2.2.2 r.2) (mw k.2.2.2 σ) [(0, .long x0), (2, .long x2), (4, .int x4), (5, .long x5), (7, .long x7)] [] 17) (σ : St) (x0 : Int64) (x2 : Int64) (x4 : Int32) (x5 : Int64) (x7 : Int64) (r : Int64 × St) (hf : fX9_lowest_b17 rc17 σ x0 x2 x4 x5 x7 = some r) : G k X 11 (some (.long r.1)) (mw k.2.2.2 r.2) (mw k.2.2.2 σ) [(0, .long x0), (2, .long x2), (4, .int x4), (5, .long x5), (7, .long x7)] [] 17 := by
  unfold fX9_lowest_b17 at hf
  refine g_lload E 4 dX9_lowest_17 rfl ?_
  refine g_lconst (v := (0 : Int64)) E dX9_lowest_19 (by decide) ?_
  refine g_lcmp E dX9_lowest_20 ?_
  refine g_if_eq (tgt := 42) E dX9_lowest_21 (by decide) (fun c1 => ?_) (fun c1 => ?_)
  · have hf := gp hf c1
    refine g_iload E 2 dX9_lowest_42 rfl ?_
    refine g_if_ne (tgt := 54) E dX9_lowest_44 (by decide) (fun c2 => ?_) (fun c2 => ?_)
    · have hf := gn hf c2
      refine g_lload_n E 1 dX9_lowest_54 rfl rfl ?_
      refine g_lload E 3 dX9_lowest_55 rfl ?_
      obtain ⟨hn3, hf⟩ := gd hf
      refine g_ldiv E hn3 dX9_lowest_57 ?_
      cases hf
      exact g_lret E dX9_lowest_58
    · have hf := gp hf c2
      refine g_lload_n E 0 dX9_lowest_47 rfl rfl ?_
      refine g_lload E 3 dX9_lowest_48 rfl ?_
      obtain ⟨hn4, hf⟩ := gd hf
      refine g_ldiv E hn4 dX9_lowest_50 ?_
      refine g_goto (tgt := 58) E dX9_lowest_51 (by decide) ?_
      cases hf
      exact g_lret E dX9_lowest_58
  · have hf := gn hf c1
    refine g_lload E 3 dX9_lowest_24 rfl ?_
    refine g_lload E 4 dX9_lowest_26 rfl ?_
    obtain ⟨hn5, hf⟩ := gd hf
    refine g_lrem E hn5 dX9_lowest_28 ?_
    refine g_lstore E [(9, .long (x5 - x5 / x7 * x7)), (0, .long x0), (2, .long x2), (4, .int x4), (5, .long x5), (7, .long x7)] dX9_lowest_29 (by decide) rfl ?_
    refine g_lload E 5 dX9_lowest_31 rfl ?_
    refine g_lstore E [(5, .long x7), (9, .long (x5 - x5 / x7 * x7)), (0, .long x0), (2, .long x2), (4, .int x4), (7, .long x7)] dX9_lowest_33 (by decide) rfl ?_
    refine g_lload E 1 dX9_lowest_35 rfl ?_
    refine g_lstore E [(7, .long (x5 - x5 / x7 * x7)), (5, .long x7), (9, .long (x5 - x5 / x7 * x7)), (0, .long x0), (2, .long x2), (4, .int x4)] dX9_lowest_37 (by decide) rfl ?_
    refine g_goto (tgt := 17) E dX9_lowest_39 (by decide) ?_
    exact g_sub [3, 4, 5, 1, 0] rfl (hrc17 σ x0 x2 x4 x7 (x5 - x5 / x7 * x7) r hf)
theorem fX9_lowest_v17 {k : gK} {X : gX} (E : gE k X cX9_lowest RX9 wsX9_lowest 11 (some .long) rm_fX9_lowest) : ∀ (n : Nat) (σ : St) (x0 : Int64) (x2 : Int64) (x4 : Int32) (x5 : Int64) (x7 : Int64) (r : Int64 × St), fX9_lowest_l17 n σ x0 x2 x4 x5 x7 = some r → G k X 11 (some (.long r.1)) (mw k.2.2.2 r.2) (mw k.2.2.2 σ) [(0, .long x0), (2, .long x2), (4, .int x4), (5, .long x5), (7, .long x7)] [] 17 := by
  intro n
  induction n with
  | zero => intro σ x0 x2 x4 x5 x7 r hf; cases hf
  | succ n ih => intro σ x0 x2 x4 x5 x7 r hf; exact fX9_lowest_w17 E (fX9_lowest_l17 n) ih σ x0 x2 x4 x5 x7 r hf
set_option maxHeartbeats 4000000 in
set_option maxRecDepth 100000 in
theorem fX9_lowest_w12 {k : gK} {X : gX} (E : gE k X cX9_lowest RX9 wsX9_lowest 11 (some .long) rm_fX9_lowest) (σ : St) (x0 : Int64) (x2 : Int64) (x4 : Int32) (t0 : Int64) (r : Int64 × St) (hf : fX9_lowest_b12 σ x0 x2 x4 t0 = some r) : G k X 11 (some (.long r.1)) (mw k.2.2.2 r.2) (mw k.2.2.2 σ) [(0, .long x0), (2, .long x2), (4, .int x4)] [.long t0] 12 := by
  unfold fX9_lowest_b12 at hf
  refine g_lstore E [(5, .long t0), (0, .long x0), (2, .long x2), (4, .int x4)] dX9_lowest_12 (by decide) rfl ?_
  refine g_lload_n E 2 dX9_lowest_14 rfl rfl ?_
  refine g_lstore E [(7, .long x2), (5, .long t0), (0, .long x0), (2, .long x2), (4, .int x4)] dX9_lowest_15 (by decide) rfl ?_
  exact g_sub [2, 3, 4, 1, 0] rfl (fX9_lowest_v17 E gF σ x0 x2 x4 t0 x2 r hf)
set_option maxHeartbeats 4000000 in
set_option maxRecDepth 100000 in
theorem fX9_lowest_c (k : gK) (σ : St) (x0 : Int64) (x2 : Int64) (x4 : Int32) (r : Int64 × St) (hf : fX9_lowest σ x0 x2 x4 = some r) : MC k yX9_lowest wsX9_lowest rm_fX9_lowest [.long x0, .long x2, .int x4] (mw k.2.2.2 σ) (some (.long r.1)) (mw k.2.2.2 r.2) := by
  refine MC_of (cc := cX9_lowest) (maxL := 11) (ret := (some .long)) (own := RX9) (lvs := [(0, .long x0), (2, .long x2), (4, .int x4)]) (by decide) rfl rfl (Nat.le_of_ble_eq_true rfl) rfl (fun X E => ?_)
  unfold fX9_lowest at hf
  refine g_lload_n E 0 dX9_lowest_0 rfl rfl ?_
  refine g_lconst (v := (0 : Int64)) E dX9_lowest_1 (by decide) ?_
  refine g_lcmp E dX9_lowest_2 ?_
  refine g_if_ge (tgt := 11) E dX9_lowest_3 (by decide) (fun c1 => ?_) (fun c1 => ?_)
  · have hf := gp hf c1
    refine g_lload_n E 0 dX9_lowest_11 rfl rfl ?_
    exact fX9_lowest_w12 E σ x0 x2 x4 x0 r hf
  · have hf := gn hf c1
    refine g_lload_n E 0 dX9_lowest_6 rfl rfl ?_
    refine g_lneg E dX9_lowest_7 ?_
    refine g_goto (tgt := 12) E dX9_lowest_8 (by decide) ?_
    exact fX9_lowest_w12 E σ x0 x2 x4 (-x0) r hf
theorem hi_X9_taken_X9 : ∀ w ∈ wsX90, w ∈ wsX9_taken := by decide +kernel
theorem hk_X9_taken_118 : Cond.fieldLink RX9 118 "PaperMarksModel" "clauses" "I" ∈ wsX9_taken := by decide +kernel
def rm_fX9_taken : Room := { frames := 3, cells := 0, slots := 0, locals := 82 }
set_option maxHeartbeats 4000000 in
set_option maxRecDepth 100000 in
theorem fX9_taken_c (k : gK) (σ : St) (x1 : Int32) (x2 : Int32) (x3 : Int32) (r : Int64 × St) (hf : fX9_taken σ x1 x2 x3 = some r) : MC k yX9_taken wsX9_taken rm_fX9_taken [.ref (k.2.2.2.1 0), .int x1, .int x2, .int x3] (mw k.2.2.2 σ) (some (.long r.1)) (mw k.2.2.2 r.2) := by
  refine MC_of (cc := cX9_taken) (maxL := 4) (ret := (some .long)) (own := RX9) (lvs := [(0, .ref (k.2.2.2.1 0)), (1, .int x1), (2, .int x2), (3, .int x3)]) (by decide) rfl rfl (Nat.le_of_ble_eq_true rfl) rfl (fun X E => ?_)
  unfold fX9_taken at hf
  refine g_aload_n E 0 dX9_taken_0 rfl rfl ?_
  refine g_iload_n E 1 dX9_taken_1 rfl rfl ?_
  obtain ⟨q1, hq2, hf⟩ := gb hf
  refine g_callV (C := RX9) (T := TX9) (N := 20) (ci := 9) (As := [.int x1]) (rest := []) (n := 1) E 0 (fX9_isPaper_c k σ x1 q1 hq2) gX9_taken_X9_isPaper rfl rfl rfl (by decide +kernel) ⟨Nat.le_of_ble_eq_true rfl, Nat.le_of_ble_eq_true rfl⟩ rfl rfl (Nat.le_of_ble_eq_true rfl) rfl (mwG0 _ _) dX9_taken_2 ?_
  refine g_if_ne (tgt := 12) E dX9_taken_5 (by decide) (fun c3 => ?_) (fun c3 => ?_)
  · have hf := gn hf c3
    refine g_aload_n E 0 dX9_taken_12 rfl rfl ?_
    refine g_iload_n E 2 dX9_taken_13 rfl rfl ?_
    obtain ⟨q4, hq5, hf⟩ := gb hf
    refine g_callV (C := RX9) (T := TX9) (N := 20) (ci := 9) (As := [.int x2]) (rest := []) (n := 1) E 0 (fX9_isSet_c k q1.2 x2 q4 hq5) gX9_taken_X9_isSet rfl rfl rfl (by decide +kernel) ⟨Nat.le_of_ble_eq_true rfl, Nat.le_of_ble_eq_true rfl⟩ rfl rfl (Nat.le_of_ble_eq_true rfl) rfl (mwG0 _ _) dX9_taken_14 ?_
    refine g_if_eq (tgt := 27) E dX9_taken_17 (by decide) (fun c6 => ?_) (fun c6 => ?_)
    · have hf := gp hf c6
      refine g_ldc2 (v := (-1000000000000000002 : Int64)) E (by decide +kernel) dX9_taken_27 ?_
      cases hf
      exact g_lret E dX9_taken_30
    · have hf := gn hf c6
      refine g_iload_n E 3 dX9_taken_20 rfl rfl ?_
      obtain ⟨q7, hq8, hf⟩ := gb hf
      refine g_callS (As := [.int x3]) (rest := []) (n := 1) E (fX9_isPart_c k q4.2 x3 q7 hq8) gX9_taken_X9_isPart rfl rfl rfl (by decide +kernel) ⟨Nat.le_of_ble_eq_true rfl, Nat.le_of_ble_eq_true rfl⟩ rfl rfl (Nat.le_of_ble_eq_true rfl) dX9_taken_21 ?_
      refine g_if_ne (tgt := 31) E dX9_taken_24 (by decide) (fun c9 => ?_) (fun c9 => ?_)
      · have hf := gn hf c9
        refine g_aload_n E 0 dX9_taken_31 rfl rfl ?_
        refine g_get (C := RX9) (T := TX9) (N := 20) (ci := 9) E 0 17 (.int (q7.2.2.1 3)) hi_X9_taken_X9 (mwG0 _ _) rfl (by decide) hk_X9_taken_118 rfl dX9_taken_32 ?_
        refine g_if_ne (tgt := 44) E dX9_taken_35 (by decide) (fun c10 => ?_) (fun c10 => ?_)
        · have hf := gn hf c10
          refine g_aload_n E 0 dX9_taken_44 rfl rfl ?_
          refine g_iload_n E 1 dX9_taken_45 rfl rfl ?_
          refine g_iload_n E 2 dX9_taken_46 rfl rfl ?_
          obtain ⟨q11, hq12, hf⟩ := gb hf
          refine g_callV (C := RX9) (T := TX9) (N := 20) (ci := 9) (As := [.int x1, .int x2]) (rest := []) (n := 2) E 0 (fX9_takenOf_c k q7.2 x1 x2 q11 hq12) gX9_taken_X9_takenOf rfl rfl rfl (by decide +kernel) ⟨Nat.le_of_ble_eq_true rfl, Nat.le_of_ble_eq_true rfl⟩ rfl rfl (Nat.le_of_ble_eq_true rfl) rfl (mwG0 _ _) dX9_taken_47 ?_
          refine g_aload_n E 0 dX9_taken_50 rfl rfl ?_
          refine g_iload_n E 1 dX9_taken_51 rfl rfl ?_
          refine g_iload_n E 2 dX9_taken_52 rfl rfl ?_
          obtain ⟨q13, hq14, hf⟩ := gb hf
          refine g_callV (C := RX9) (T := TX9) (N := 20) (ci := 9) (As := [.int x1, .int x2]) (rest := [.long q11.1]) (n := 2) E 0 (fX9_allOf_c k q11.2 x1 x2 q13 hq14) gX9_taken_X9_allOf rfl rfl rfl (by decide +kernel) ⟨Nat.le_of_ble_eq_true rfl, Nat.le_of_ble_eq_true rfl⟩ rfl rfl (Nat.le_of_ble_eq_true rfl) rfl (mwG0 _ _) dX9_taken_53 ?_
          refine g_iload_n E 3 dX9_taken_56 rfl rfl ?_
          obtain ⟨q15, hq16, hf⟩ := gb hf
          refine g_callS (As := [.long q11.1, .long q13.1, .int x3]) (rest := []) (n := 3) E (fX9_lowest_c k q13.2 q11.1 q13.1 x3 q15 hq16) gX9_taken_X9_lowest rfl rfl rfl (by decide +kernel) ⟨Nat.le_of_ble_eq_true rfl, Nat.le_of_ble_eq_true rfl⟩ rfl rfl (Nat.le_of_ble_eq_true rfl) dX9_taken_57 ?_
          cases hf
          exact g_lret E dX9_taken_60
        · have hf := gp hf c10
          refine g_ldc2 (v := (-1000000000000000003 : Int64)) E (by decide +kernel) dX9_taken_38 ?_
          refine g_goto (tgt := 60) E dX9_taken_41 (by decide) ?_
          cases hf
          exact g_lret E dX9_taken_60
      · have hf := gp hf c9
        refine g_ldc2 (v := (-1000000000000000002 : Int64)) E (by decide +kernel) dX9_taken_27 ?_
        cases hf
        exact g_lret E dX9_taken_30
  · have hf := gp hf c3
    refine g_ldc2 (v := (-1000000000000000001 : Int64)) E (by decide +kernel) dX9_taken_8 ?_
    cases hf
    exact g_lret E dX9_taken_11
theorem hi_X9_lot_X9 : ∀ w ∈ wsX90, w ∈ wsX9_lot := by decide +kernel
theorem hk_X9_lot_118 : Cond.fieldLink RX9 118 "PaperMarksModel" "clauses" "I" ∈ wsX9_lot := by decide +kernel
def rm_fX9_lot : Room := { frames := 3, cells := 0, slots := 0, locals := 82 }
set_option maxHeartbeats 4000000 in
set_option maxRecDepth 100000 in
theorem fX9_lot_c (k : gK) (σ : St) (x1 : Int32) (x2 : Int32) (x3 : Int32) (x4 : Int32) (r : Int64 × St) (hf : fX9_lot σ x1 x2 x3 x4 = some r) : MC k yX9_lot wsX9_lot rm_fX9_lot [.ref (k.2.2.2.1 0), .int x1, .int x2, .int x3, .int x4] (mw k.2.2.2 σ) (some (.long r.1)) (mw k.2.2.2 r.2) := by
  refine MC_of (cc := cX9_lot) (maxL := 13) (ret := (some .long)) (own := RX9) (lvs := [(0, .ref (k.2.2.2.1 0)), (1, .int x1), (2, .int x2), (3, .int x3), (4, .int x4)]) (by decide) rfl rfl (Nat.le_of_ble_eq_true rfl) rfl (fun X E => ?_)
  unfold fX9_lot at hf
  refine g_aload_n E 0 dX9_lot_0 rfl rfl ?_
  refine g_iload_n E 1 dX9_lot_1 rfl rfl ?_
  obtain ⟨q1, hq2, hf⟩ := gb hf
  refine g_callV (C := RX9) (T := TX9) (N := 20) (ci := 9) (As := [.int x1]) (rest := []) (n := 1) E 0 (fX9_isPaper_c k σ x1 q1 hq2) gX9_lot_X9_isPaper rfl rfl rfl (by decide +kernel) ⟨Nat.le_of_ble_eq_true rfl, Nat.le_of_ble_eq_true rfl⟩ rfl rfl (Nat.le_of_ble_eq_true rfl) rfl (mwG0 _ _) dX9_lot_2 ?_
  refine g_if_ne (tgt := 12) E dX9_lot_5 (by decide) (fun c3 => ?_) (fun c3 => ?_)
  · have hf := gn hf c3
    refine g_aload_n E 0 dX9_lot_12 rfl rfl ?_
    refine g_iload_n E 2 dX9_lot_13 rfl rfl ?_
    obtain ⟨q4, hq5, hf⟩ := gb hf
    refine g_callV (C := RX9) (T := TX9) (N := 20) (ci := 9) (As := [.int x2]) (rest := []) (n := 1) E 0 (fX9_isSet_c k q1.2 x2 q4 hq5) gX9_lot_X9_isSet rfl rfl rfl (by decide +kernel) ⟨Nat.le_of_ble_eq_true rfl, Nat.le_of_ble_eq_true rfl⟩ rfl rfl (Nat.le_of_ble_eq_true rfl) rfl (mwG0 _ _) dX9_lot_14 ?_
    refine g_if_eq (tgt := 36) E dX9_lot_17 (by decide) (fun c6 => ?_) (fun c6 => ?_)
    · have hf := gp hf c6
      refine g_ldc2 (v := (-1000000000000000002 : Int64)) E (by decide +kernel) dX9_lot_36 ?_
      cases hf
      exact g_lret E dX9_lot_39
    · have hf := gn hf c6
      refine g_aload_n E 0 dX9_lot_20 rfl rfl ?_
      refine g_iload_n E 3 dX9_lot_21 rfl rfl ?_
      obtain ⟨q7, hq8, hf⟩ := gb hf
      refine g_callV (C := RX9) (T := TX9) (N := 20) (ci := 9) (As := [.int x3]) (rest := []) (n := 1) E 0 (fX9_isSet_c k q4.2 x3 q7 hq8) gX9_lot_X9_isSet rfl rfl rfl (by decide +kernel) ⟨Nat.le_of_ble_eq_true rfl, Nat.le_of_ble_eq_true rfl⟩ rfl rfl (Nat.le_of_ble_eq_true rfl) rfl (mwG0 _ _) dX9_lot_22 ?_
      refine g_if_eq (tgt := 36) E dX9_lot_25 (by decide) (fun c9 => ?_) (fun c9 => ?_)
      · have hf := gp hf c9
        refine g_ldc2 (v := (-1000000000000000002 : Int64)) E (by decide +kernel) dX9_lot_36 ?_
        cases hf
        exact g_lret E dX9_lot_39
      · have hf := gn hf c9
        refine g_iload E 4 dX9_lot_28 rfl ?_
        obtain ⟨q10, hq11, hf⟩ := gb hf
        refine g_callS (As := [.int x4]) (rest := []) (n := 1) E (fX9_isPart_c k q7.2 x4 q10 hq11) gX9_lot_X9_isPart rfl rfl rfl (by decide +kernel) ⟨Nat.le_of_ble_eq_true rfl, Nat.le_of_ble_eq_true rfl⟩ rfl rfl (Nat.le_of_ble_eq_true rfl) dX9_lot_30 ?_
        refine g_if_ne (tgt := 40) E dX9_lot_33 (by decide) (fun c12 => ?_) (fun c12 => ?_)
        · have hf := gn hf c12
          refine g_aload_n E 0 dX9_lot_40 rfl rfl ?_
          refine g_get (C := RX9) (T := TX9) (N := 20) (ci := 9) E 0 17 (.int (q10.2.2.1 3)) hi_X9_lot_X9 (mwG0 _ _) rfl (by decide) hk_X9_lot_118 rfl dX9_lot_41 ?_
          refine g_if_ne (tgt := 51) E dX9_lot_44 (by decide) (fun c13 => ?_) (fun c13 => ?_)
          · have hf := gn hf c13
            refine g_aload_n E 0 dX9_lot_51 rfl rfl ?_
            refine g_iload_n E 1 dX9_lot_52 rfl rfl ?_
            refine g_iload_n E 2 dX9_lot_53 rfl rfl ?_
            obtain ⟨q14, hq15, hf⟩ := gb hf
            refine g_callV (C := RX9) (T := TX9) (N := 20) (ci := 9) (As := [.int x1, .int x2]) (rest := []) (n := 2) E 0 (fX9_takenOf_c k q10.2 x1 x2 q14 hq15) gX9_lot_X9_takenOf rfl rfl rfl (by decide +kernel) ⟨Nat.le_of_ble_eq_true rfl, Nat.le_of_ble_eq_true rfl⟩ rfl rfl (Nat.le_of_ble_eq_true rfl) rfl (mwG0 _ _) dX9_lot_54 ?_
            refine g_lstore E [(5, .long q14.1), (0, .ref (k.2.2.2.1 0)), (1, .int x1), (2, .int x2), (3, .int x3), (4, .int x4)] dX9_lot_57 (by decide) rfl ?_
            refine g_aload_n E 1 dX9_lot_59 rfl rfl ?_
            refine g_iload_n E 2 dX9_lot_60 rfl rfl ?_
            refine g_iload_n E 4 dX9_lot_61 rfl rfl ?_
            obtain ⟨q16, hq17, hf⟩ := gb hf
            refine g_callV (C := RX9) (T := TX9) (N := 20) (ci := 9) (As := [.int x1, .int x3]) (rest := []) (n := 2) E 0 (fX9_takenOf_c k q14.2 x1 x3 q16 hq17) gX9_lot_X9_takenOf rfl rfl rfl (by decide +kernel) ⟨Nat.le_of_ble_eq_true rfl, Nat.le_of_ble_eq_true rfl⟩ rfl rfl (Nat.le_of_ble_eq_true rfl) rfl (mwG0 _ _) dX9_lot_62 ?_
            refine g_lstore E [(7, .long q16.1), (5, .long q14.1), (0, .ref (k.2.2.2.1 0)), (1, .int x1), (2, .int x2), (3, .int x3), (4, .int x4)] dX9_lot_65 (by decide) rfl ?_
            refine g_aload_n E 2 dX9_lot_67 rfl rfl ?_
            refine g_iload_n E 3 dX9_lot_68 rfl rfl ?_
            refine g_iload_n E 4 dX9_lot_69 rfl rfl ?_
            obtain ⟨q18, hq19, hf⟩ := gb hf
            refine g_callV (C := RX9) (T := TX9) (N := 20) (ci := 9) (As := [.int x1, .int x2]) (rest := []) (n := 2) E 0 (fX9_allOf_c k q16.2 x1 x2 q18 hq19) gX9_lot_X9_allOf rfl rfl rfl (by decide +kernel) ⟨Nat.le_of_ble_eq_true rfl, Nat.le_of_ble_eq_true rfl⟩ rfl rfl (Nat.le_of_ble_eq_true rfl) rfl (mwG0 _ _) dX9_lot_70 ?_
            refine g_lstore E [(9, .long q18.1), (7, .long q16.1), (5, .long q14.1), (0, .ref (k.2.2.2.1 0)), (1, .int x1), (2, .int x2), (3, .int x3), (4, .int x4)] dX9_lot_73 (by decide) rfl ?_
            refine g_aload_n E 3 dX9_lot_75 rfl rfl ?_
            refine g_iload_n E 4 dX9_lot_76 rfl rfl ?_
            refine g_iload_n E 6 dX9_lot_77 rfl rfl ?_
            obtain ⟨q20, hq21, hf⟩ := gb hf
            refine g_callV (C := RX9) (T := TX9) (N := 20) (ci := 9) (As := [.int x1, .int x3]) (rest := []) (n := 2) E 0 (fX9_allOf_c k q18.2 x1 x3 q20 hq21) gX9_lot_X9_allOf rfl rfl rfl (by decide +kernel) ⟨Nat.le_of_ble_eq_true rfl, Nat.le_of_ble_eq_true rfl⟩ rfl rfl (Nat.le_of_ble_eq_true rfl) rfl (mwG0 _ _) dX9_lot_78 ?_
            refine g_lstore E [(11, .long q20.1), (9, .long q18.1), (7, .long q16.1), (5, .long q14.1), (0, .ref (k.2.2.2.1 0)), (1, .int x1), (2, .int x2), (3, .int x3), (4, .int x4)] dX9_lot_81 (by decide) rfl ?_
            refine g_lload E 3 dX9_lot_83 rfl ?_
            refine g_lload E 0 dX9_lot_85 rfl ?_
            refine g_lload E 2 dX9_lot_87 rfl ?_
            refine g_lsub E dX9_lot_89 ?_
            refine g_lmul E dX9_lot_90 ?_
            refine g_lload E 2 dX9_lot_91 rfl ?_
            refine g_lload E 1 dX9_lot_93 rfl ?_
            refine g_lload E 3 dX9_lot_95 rfl ?_
            refine g_lsub E dX9_lot_97 ?_
            refine g_lmul E dX9_lot_98 ?_
            refine g_ladd E dX9_lot_99 ?_
            refine g_lload E 1 dX9_lot_100 rfl ?_
            refine g_lload E 0 dX9_lot_102 rfl ?_
            refine g_lmul E dX9_lot_104 ?_
            refine g_iload E 8 dX9_lot_105 rfl ?_
            obtain ⟨q22, hq23, hf⟩ := gb hf
            refine g_callS (As := [.long (((q14.1 * (q20.1 - q16.1))) + ((q16.1 * (q18.1 - q14.1)))), .long (q18.1 * q20.1), .int x4]) (rest := []) (n := 3) E (fX9_lowest_c k q20.2 ((((q14.1 * (q20.1 - q16.1))) + ((q16.1 * (q18.1 - q14.1))))) (q18.1 * q20.1) x4 q22 hq23) gX9_lot_X9_lowest rfl rfl rfl (by decide +kernel) ⟨Nat.le_of_ble_eq_true rfl, Nat.le_of_ble_eq_true rfl⟩ rfl rfl (Nat.le_of_ble_eq_true rfl) dX9_lot_107 ?_
            cases hf
            exact g_lret E dX9_lot_110
          · have hf := gp hf c13
            refine g_ldc2 (v := (-1000000000000000003 : Int64)) E (by decide +kernel) dX9_lot_47 ?_
            cases hf
            exact g_lret E dX9_lot_50
        · have hf := gp hf c12
          refine g_ldc2 (v := (-1000000000000000002 : Int64)) E (by decide +kernel) dX9_lot_36 ?_
          cases hf
          exact g_lret E dX9_lot_39
  · have hf := gp hf c3
    refine g_ldc2 (v := (-1000000000000000001 : Int64)) E (by decide +kernel) dX9_lot_8 ?_
    cases hf
    exact g_lret E dX9_lot_11
theorem hi_X9_rightOf_X9 : ∀ w ∈ wsX90, w ∈ wsX9_rightOf := by decide +kernel
theorem hk_X9_rightOf_67 : Cond.fieldLink RX9 67 "PaperMarksModel" "papers" "I" ∈ wsX9_rightOf := by decide +kernel
theorem hk_X9_rightOf_22 : Cond.fieldLink RX9 22 "PaperMarksModel" "worths" "[I" ∈ wsX9_rightOf := by decide +kernel
def rm_fX9_rightOf : Room := { frames := 3, cells := 0, slots := 0, locals := 82 }
set_option maxHeartbeats 4000000 in
set_option maxRecDepth 100000 in
theorem fX9_rightOf_w65 {k : gK} {X : gX} (E : gE k X cX9_rightOf RX9 wsX9_rightOf 10 (some .long) rm_fX9_rightOf) (rc15 : St → Int32 → Int32 → Int64 → Int64 → Int32 → Option (Int64 × St)) (hrc15 : ∀ (σ : St) (x1 : Int32) (x2 : Int32) (x3 : Int64) (x5 : Int64) (x7 : Int32) (r : Int64 × St), rc15 σ x1 x2 x3 x5 x7 = some r → G k X 10 (some (.long r.1)) (mw k.2.2.2 r.2) (mw k.2.2.2 σ) [(0, .ref (k.2.2.2.1 0)), (1, .int x1), (2, .int x2), (3, .long x3), (5, .long x5), (7, .int x7)] [] 15) (σ : St) (x1 : Int32) (x2 : Int32) (x3 : Int64) (x7 : Int32) (t0 : Int64) (t1 : Int64) (r : Int64 × St) (hf : fX9_rightOf_b65 rc15 σ x1 x2 x3 x7 t0 t1 = some r) : G k X 10 (some (.long r.1)) (mw k.2.2.2 r.2) (mw k.2.2.2 σ) [(0, .ref (k.2.2.2.1 0)), (1, .int x1), (2, .int x2), (3, .long x3), (7, .int x7)] [.long t1, .long t0] 65 := by
  unfold fX9_rightOf_b65 at hf
  refine g_ladd E dX9_rightOf_65 ?_
  refine g_lstore E [(5, .long (t0 + t1)), (0, .ref (k.2.2.2.1 0)), (1, .int x1), (2, .int x2), (3, .long x3), (7, .int x7)] dX9_rightOf_66 (by decide) rfl ?_
  refine g_iinc E 5 [(7, .int (x7 + (1 : Int32))), (5, .long (t0 + t1)), (0, .ref (k.2.2.2.1 0)), (1, .int x1), (2, .int x2), (3, .long x3)] (x7 + (1 : Int32)) dX9_rightOf_68 rfl (by rfl) (by decide) rfl ?_
  refine g_goto (tgt := 15) E dX9_rightOf_71 (by decide) ?_
  exact g_sub [2, 3, 4, 5, 1, 0] rfl (hrc15 σ x1 x2 x3 (t0 + t1) (x7 + (1 : Int32)) r hf)
set_option maxHeartbeats 4000000 in
set_option maxRecDepth 100000 in
theorem fX9_rightOf_w15 {k : gK} {X : gX} (E : gE k X cX9_rightOf RX9 wsX9_rightOf 10 (some .long) rm_fX9_rightOf) (rc15 : St → Int32 → Int32 → Int64 → Int64 → Int32 → Option (Int64 × St)) (hrc15 : ∀ (σ : St) (x1 : Int32) (x2 : Int32) (x3 : Int64) (x5 : Int64) (x7 : Int32) (r : Int64 × St), rc15 σ x1 x2 x3 x5 x7 = some r → G k X 10 (some (.long r.1)) (mw k.2.2.2 r.2) (mw k.2.2.2 σ) [(0, .ref (k.2.2.2.1 0)), (1, .int x1), (2, .int x2), (3, .long x3), (5, .long x5), (7, .int x7)] [] 15) (σ : St) (x1 : Int32) (x2 : Int32) (x3 : Int64) (x5 : Int64) (x7 : Int32) (r : Int64 × St) (hf : fX9_rightOf_b15 rc15 σ x1 x2 x3 x5 x7 = some r) : G k X 10 (some (.long r.1)) (mw k.2.2.2 r.2) (mw k.2.2.2 σ) [(0, .ref (k.2.2.2.1 0)), (1, .int x1), (2, .int x2), (3, .long x3), (5, .long x5), (7, .int x7)] [] 15 := by
  unfold fX9_rightOf_b15 at hf
  refine g_iload E 5 dX9_rightOf_15 rfl ?_
  refine g_aload_n E 0 dX9_rightOf_17 rfl rfl ?_
  refine g_get (C := RX9) (T := TX9) (N := 20) (ci := 9) E 0 9 (.int (σ.2.1 1)) hi_X9_rightOf_X9 (mwG0 _ _) rfl (by decide) hk_X9_rightOf_67 rfl dX9_rightOf_18 ?_
  refine g_icmp_ge (tgt := 74) E dX9_rightOf_21 (by decide) (fun c1 => ?_) (fun c1 => ?_)
  · have hf := gp hf c1
    refine g_lload E 4 dX9_rightOf_74 rfl ?_
    cases hf
    exact g_lret E dX9_rightOf_76
  · have hf := gn hf c1
    refine g_aload_n E 0 dX9_rightOf_24 rfl rfl ?_
    refine g_iload E 5 dX9_rightOf_25 rfl ?_
    refine g_iload_n E 2 dX9_rightOf_27 rfl rfl ?_
    obtain ⟨q2, hq3, hf⟩ := gb hf
    refine g_callV (C := RX9) (T := TX9) (N := 20) (ci := 9) (As := [.int x7, .int x2]) (rest := []) (n := 2) E 0 (fX9_takenOf_c k σ x7 x2 q2 hq3) gX9_rightOf_X9_takenOf rfl rfl rfl (by decide +kernel) ⟨Nat.le_of_ble_eq_true rfl, Nat.le_of_ble_eq_true rfl⟩ rfl rfl (Nat.le_of_ble_eq_true rfl) rfl (mwG0 _ _) dX9_rightOf_28 ?_
    refine g_lload_n E 3 dX9_rightOf_31 rfl rfl ?_
    refine g_aload_n E 0 dX9_rightOf_32 rfl rfl ?_
    refine g_iload E 5 dX9_rightOf_33 rfl ?_
    refine g_iload_n E 2 dX9_rightOf_35 rfl rfl ?_
    obtain ⟨q4, hq5, hf⟩ := gb hf
    refine g_callV (C := RX9) (T := TX9) (N := 20) (ci := 9) (As := [.int x7, .int x2]) (rest := [.long x3, .long q2.1]) (n := 2) E 0 (fX9_allOf_c k q2.2 x7 x2 q4 hq5) gX9_rightOf_X9_allOf rfl rfl rfl (by decide +kernel) ⟨Nat.le_of_ble_eq_true rfl, Nat.le_of_ble_eq_true rfl⟩ rfl rfl (Nat.le_of_ble_eq_true rfl) rfl (mwG0 _ _) dX9_rightOf_36 ?_
    obtain ⟨hn6, hf⟩ := gd hf
    refine g_ldiv E hn6 dX9_rightOf_39 ?_
    refine g_lmul E dX9_rightOf_40 ?_
    refine g_lstore E [(8, .long (q2.1 * (x3 / q4.1))), (0, .ref (k.2.2.2.1 0)), (1, .int x1), (2, .int x2), (3, .long x3), (5, .long x5), (7, .int x7)] dX9_rightOf_41 (by decide) rfl ?_
    refine g_lload E 5 dX9_rightOf_43 rfl ?_
    refine g_aload_n E 1 dX9_rightOf_45 rfl rfl ?_
    refine g_get (C := RX9) (T := TX9) (N := 20) (ci := 9) E 0 5 (.ref (k.2.2.2.1 5)) hi_X9_rightOf_X9 (mwG0 _ _) rfl (by decide) hk_X9_rightOf_22 rfl dX9_rightOf_46 ?_
    refine g_iload E 6 dX9_rightOf_49 rfl ?_
    obtain ⟨hi7, hf⟩ := gd hf
    refine g_iald E 5 (q4.2.1 5) (mwG5 _ _) hi7 dX9_rightOf_51 ?_
    refine g_iload_n E 2 dX9_rightOf_52 rfl rfl ?_
    refine g_icmp_lt (tgt := 61) E dX9_rightOf_53 (by decide) (fun c8 => ?_) (fun c8 => ?_)
    · have hf := gp hf c8
      refine g_lload_n E 4 dX9_rightOf_61 rfl rfl ?_
      refine g_lload E 0 dX9_rightOf_62 rfl ?_
      refine g_lsub E dX9_rightOf_64 ?_
      exact g_sub [1, 2, 3, 4, 6] rfl (fX9_rightOf_w65 E rc15 hrc15 q4.2 x1 x2 x3 x7 x5 (x3 - ((q2.1 * (x3 / q4.1)))) r hf)
    · have hf := gn hf c8
      refine g_lload E 0 dX9_rightOf_56 rfl ?_
      refine g_goto (tgt := 65) E dX9_rightOf_58 (by decide) ?_
      exact g_sub [1, 2, 3, 4, 6] rfl (fX9_rightOf_w65 E rc15 hrc15 q4.2 x1 x2 x3 x7 x5 (q2.1 * (x3 / q4.1)) r hf)
theorem fX9_rightOf_v15 {k : gK} {X : gX} (E : gE k X cX9_rightOf RX9 wsX9_rightOf 10 (some .long) rm_fX9_rightOf) : ∀ (n : Nat) (σ : St) (x1 : Int32) (x2 : Int32) (x3 : Int64) (x5 : Int64) (x7 : Int32) (r : Int64 × St), fX9_rightOf_l15 n σ x1 x2 x3 x5 x7 = some r → G k X 10 (some (.long r.1)) (mw k.2.2.2 r.2) (mw k.2.2.2 σ) [(0, .ref (k.2.2.2.1 0)), (1, .int x1), (2, .int x2), (3, .long x3), (5, .long x5), (7, .int x7)] [] 15 := by
  intro n
  induction n with
  | zero => intro σ x1 x2 x3 x5 x7 r hf; cases hf
  | succ n ih => intro σ x1 x2 x3 x5 x7 r hf; exact fX9_rightOf_w15 E (fX9_rightOf_l15 n) ih σ x1 x2 x3 x5 x7 r hf
set_option maxHeartbeats 4000000 in
set_option maxRecDepth 100000 in
theorem fX9_rightOf_c (k : gK) (σ : St) (x1 : Int32) (x2 : Int32) (r : Int64 × St) (hf : fX9_rightOf σ x1 x2 = some r) : MC k yX9_rightOf wsX9_rightOf rm_fX9_rightOf [.ref (k.2.2.2.1 0), .int x1, .int x2] (mw k.2.2.2 σ) (some (.long r.1)) (mw k.2.2.2 r.2) := by
  refine MC_of (cc := cX9_rightOf) (maxL := 10) (ret := (some .long)) (own := RX9) (lvs := [(0, .ref (k.2.2.2.1 0)), (1, .int x1), (2, .int x2)]) (by decide) rfl rfl (Nat.le_of_ble_eq_true rfl) rfl (fun X E => ?_)
  unfold fX9_rightOf at hf
  refine g_ldc2 (v := (4 : Int64)) E (by decide +kernel) dX9_rightOf_0 ?_
  refine g_bipush (v := (7 : Int32)) E dX9_rightOf_3 (by decide) ?_
  obtain ⟨q1, hq2, hf⟩ := gb hf
  refine g_callS (As := [.long (4 : Int64), .int (7 : Int32)]) (rest := []) (n := 2) E (fX9_power_c k σ (4 : Int64) (7 : Int32) q1 hq2) gX9_rightOf_X9_power rfl rfl rfl (by decide +kernel) ⟨Nat.le_of_ble_eq_true rfl, Nat.le_of_ble_eq_true rfl⟩ rfl rfl (Nat.le_of_ble_eq_true rfl) dX9_rightOf_5 ?_
  refine g_lstore_n E [(3, .long q1.1), (0, .ref (k.2.2.2.1 0)), (1, .int x1), (2, .int x2)] dX9_rightOf_8 rfl (by decide) rfl ?_
  refine g_lconst (v := (0 : Int64)) E dX9_rightOf_9 (by decide) ?_
  refine g_lstore E [(5, .long (0 : Int64)), (3, .long q1.1), (0, .ref (k.2.2.2.1 0)), (1, .int x1), (2, .int x2)] dX9_rightOf_10 (by decide) rfl ?_
  refine g_iconst (v := (0 : Int32)) E dX9_rightOf_12 (by decide) ?_
  refine g_istore E [(7, .int (0 : Int32)), (5, .long (0 : Int64)), (3, .long q1.1), (0, .ref (k.2.2.2.1 0)), (1, .int x1), (2, .int x2)] dX9_rightOf_13 (by decide) rfl ?_
  exact g_sub [3, 4, 5, 2, 1, 0] rfl (fX9_rightOf_v15 E gF q1.2 x1 x2 q1.1 (0 : Int64) (0 : Int32) r hf)
theorem hi_X9_right_X9 : ∀ w ∈ wsX90, w ∈ wsX9_right := by decide +kernel
theorem hk_X9_right_118 : Cond.fieldLink RX9 118 "PaperMarksModel" "clauses" "I" ∈ wsX9_right := by decide +kernel
def rm_fX9_right : Room := { frames := 4, cells := 0, slots := 0, locals := 111 }
set_option maxHeartbeats 4000000 in
set_option maxRecDepth 100000 in
theorem fX9_right_c (k : gK) (σ : St) (x1 : Int32) (x2 : Int32) (x3 : Int32) (r : Int64 × St) (hf : fX9_right σ x1 x2 x3 = some r) : MC k yX9_right wsX9_right rm_fX9_right [.ref (k.2.2.2.1 0), .int x1, .int x2, .int x3] (mw k.2.2.2 σ) (some (.long r.1)) (mw k.2.2.2 r.2) := by
  refine MC_of (cc := cX9_right) (maxL := 4) (ret := (some .long)) (own := RX9) (lvs := [(0, .ref (k.2.2.2.1 0)), (1, .int x1), (2, .int x2), (3, .int x3)]) (by decide) rfl rfl (Nat.le_of_ble_eq_true rfl) rfl (fun X E => ?_)
  unfold fX9_right at hf
  refine g_iload_n E 1 dX9_right_0 rfl rfl ?_
  refine g_i2l E dX9_right_1 ?_
  refine g_lconst (v := (1 : Int64)) E dX9_right_2 (by decide) ?_
  refine g_ldc2 (v := (5 : Int64)) E (by decide +kernel) dX9_right_3 ?_
  obtain ⟨q1, hq2, hf⟩ := gb hf
  refine g_callS (As := [.long x1.toInt64, .long (1 : Int64), .long (5 : Int64)]) (rest := []) (n := 3) E (fX9_in_c k σ x1.toInt64 (1 : Int64) (5 : Int64) q1 hq2) gX9_right_X9_in rfl rfl rfl (by decide +kernel) ⟨Nat.le_of_ble_eq_true rfl, Nat.le_of_ble_eq_true rfl⟩ rfl rfl (Nat.le_of_ble_eq_true rfl) dX9_right_6 ?_
  refine g_if_eq (tgt := 27) E dX9_right_9 (by decide) (fun c3 => ?_) (fun c3 => ?_)
  · have hf := gp hf c3
    refine g_ldc2 (v := (-1000000000000000002 : Int64)) E (by decide +kernel) dX9_right_27 ?_
    cases hf
    exact g_lret E dX9_right_30
  · have hf := gn hf c3
    refine g_aload_n E 0 dX9_right_12 rfl rfl ?_
    refine g_iload_n E 2 dX9_right_13 rfl rfl ?_
    obtain ⟨q4, hq5, hf⟩ := gb hf
    refine g_callV (C := RX9) (T := TX9) (N := 20) (ci := 9) (As := [.int x2]) (rest := []) (n := 1) E 0 (fX9_isSet_c k q1.2 x2 q4 hq5) gX9_right_X9_isSet rfl rfl rfl (by decide +kernel) ⟨Nat.le_of_ble_eq_true rfl, Nat.le_of_ble_eq_true rfl⟩ rfl rfl (Nat.le_of_ble_eq_true rfl) rfl (mwG0 _ _) dX9_right_14 ?_
    refine g_if_eq (tgt := 27) E dX9_right_17 (by decide) (fun c6 => ?_) (fun c6 => ?_)
    · have hf := gp hf c6
      refine g_ldc2 (v := (-1000000000000000002 : Int64)) E (by decide +kernel) dX9_right_27 ?_
      cases hf
      exact g_lret E dX9_right_30
    · have hf := gn hf c6
      refine g_iload_n E 3 dX9_right_20 rfl rfl ?_
      obtain ⟨q7, hq8, hf⟩ := gb hf
      refine g_callS (As := [.int x3]) (rest := []) (n := 1) E (fX9_isPart_c k q4.2 x3 q7 hq8) gX9_right_X9_isPart rfl rfl rfl (by decide +kernel) ⟨Nat.le_of_ble_eq_true rfl, Nat.le_of_ble_eq_true rfl⟩ rfl rfl (Nat.le_of_ble_eq_true rfl) dX9_right_21 ?_
      refine g_if_ne (tgt := 31) E dX9_right_24 (by decide) (fun c9 => ?_) (fun c9 => ?_)
      · have hf := gn hf c9
        refine g_aload_n E 0 dX9_right_31 rfl rfl ?_
        refine g_get (C := RX9) (T := TX9) (N := 20) (ci := 9) E 0 17 (.int (q7.2.2.1 3)) hi_X9_right_X9 (mwG0 _ _) rfl (by decide) hk_X9_right_118 rfl dX9_right_32 ?_
        refine g_if_ne (tgt := 44) E dX9_right_35 (by decide) (fun c10 => ?_) (fun c10 => ?_)
        · have hf := gn hf c10
          refine g_aload_n E 0 dX9_right_44 rfl rfl ?_
          refine g_iload_n E 1 dX9_right_45 rfl rfl ?_
          refine g_iload_n E 2 dX9_right_46 rfl rfl ?_
          obtain ⟨q11, hq12, hf⟩ := gb hf
          refine g_callV (C := RX9) (T := TX9) (N := 20) (ci := 9) (As := [.int x1, .int x2]) (rest := []) (n := 2) E 0 (fX9_rightOf_c k q7.2 x1 x2 q11 hq12) gX9_right_X9_rightOf rfl rfl rfl (by decide +kernel) ⟨Nat.le_of_ble_eq_true rfl, Nat.le_of_ble_eq_true rfl⟩ rfl rfl (Nat.le_of_ble_eq_true rfl) rfl (mwG0 _ _) dX9_right_47 ?_
          refine g_ldc2 (v := (4 : Int64)) E (by decide +kernel) dX9_right_50 ?_
          refine g_bipush (v := (7 : Int32)) E dX9_right_53 (by decide) ?_
          obtain ⟨q13, hq14, hf⟩ := gb hf
          refine g_callS (As := [.long (4 : Int64), .int (7 : Int32)]) (rest := [.long q11.1]) (n := 2) E (fX9_power_c k q11.2 (4 : Int64) (7 : Int32) q13 hq14) gX9_right_X9_power rfl rfl rfl (by decide +kernel) ⟨Nat.le_of_ble_eq_true rfl, Nat.le_of_ble_eq_true rfl⟩ rfl rfl (Nat.le_of_ble_eq_true rfl) dX9_right_55 ?_
          refine g_iload_n E 3 dX9_right_58 rfl rfl ?_
          obtain ⟨q15, hq16, hf⟩ := gb hf
          refine g_callS (As := [.long q11.1, .long q13.1, .int x3]) (rest := []) (n := 3) E (fX9_lowest_c k q13.2 q11.1 q13.1 x3 q15 hq16) gX9_right_X9_lowest rfl rfl rfl (by decide +kernel) ⟨Nat.le_of_ble_eq_true rfl, Nat.le_of_ble_eq_true rfl⟩ rfl rfl (Nat.le_of_ble_eq_true rfl) dX9_right_59 ?_
          cases hf
          exact g_lret E dX9_right_62
        · have hf := gp hf c10
          refine g_ldc2 (v := (-1000000000000000003 : Int64)) E (by decide +kernel) dX9_right_38 ?_
          refine g_goto (tgt := 62) E dX9_right_41 (by decide) ?_
          cases hf
          exact g_lret E dX9_right_62
      · have hf := gp hf c9
        refine g_ldc2 (v := (-1000000000000000002 : Int64)) E (by decide +kernel) dX9_right_27 ?_
        cases hf
        exact g_lret E dX9_right_30
theorem hi_X9_more_X9 : ∀ w ∈ wsX90, w ∈ wsX9_more := by decide +kernel
theorem hk_X9_more_118 : Cond.fieldLink RX9 118 "PaperMarksModel" "clauses" "I" ∈ wsX9_more := by decide +kernel
def rm_fX9_more : Room := { frames := 4, cells := 0, slots := 0, locals := 111 }
set_option maxHeartbeats 4000000 in
set_option maxRecDepth 100000 in
theorem fX9_more_c (k : gK) (σ : St) (x1 : Int32) (x2 : Int32) (x3 : Int32) (x4 : Int32) (r : Int64 × St) (hf : fX9_more σ x1 x2 x3 x4 = some r) : MC k yX9_more wsX9_more rm_fX9_more [.ref (k.2.2.2.1 0), .int x1, .int x2, .int x3, .int x4] (mw k.2.2.2 σ) (some (.long r.1)) (mw k.2.2.2 r.2) := by
  refine MC_of (cc := cX9_more) (maxL := 5) (ret := (some .long)) (own := RX9) (lvs := [(0, .ref (k.2.2.2.1 0)), (1, .int x1), (2, .int x2), (3, .int x3), (4, .int x4)]) (by decide) rfl rfl (Nat.le_of_ble_eq_true rfl) rfl (fun X E => ?_)
  unfold fX9_more at hf
  refine g_aload_n E 0 dX9_more_0 rfl rfl ?_
  refine g_iload_n E 1 dX9_more_1 rfl rfl ?_
  obtain ⟨q1, hq2, hf⟩ := gb hf
  refine g_callV (C := RX9) (T := TX9) (N := 20) (ci := 9) (As := [.int x1]) (rest := []) (n := 1) E 0 (fX9_isJudge_c k σ x1 q1 hq2) gX9_more_X9_isJudge rfl rfl rfl (by decide +kernel) ⟨Nat.le_of_ble_eq_true rfl, Nat.le_of_ble_eq_true rfl⟩ rfl rfl (Nat.le_of_ble_eq_true rfl) rfl (mwG0 _ _) dX9_more_2 ?_
  refine g_if_ne (tgt := 12) E dX9_more_5 (by decide) (fun c3 => ?_) (fun c3 => ?_)
  · have hf := gn hf c3
    refine g_iload_n E 2 dX9_more_12 rfl rfl ?_
    refine g_i2l E dX9_more_13 ?_
    refine g_lconst (v := (1 : Int64)) E dX9_more_14 (by decide) ?_
    refine g_ldc2 (v := (5 : Int64)) E (by decide +kernel) dX9_more_15 ?_
    obtain ⟨q4, hq5, hf⟩ := gb hf
    refine g_callS (As := [.long x2.toInt64, .long (1 : Int64), .long (5 : Int64)]) (rest := []) (n := 3) E (fX9_in_c k q1.2 x2.toInt64 (1 : Int64) (5 : Int64) q4 hq5) gX9_more_X9_in rfl rfl rfl (by decide +kernel) ⟨Nat.le_of_ble_eq_true rfl, Nat.le_of_ble_eq_true rfl⟩ rfl rfl (Nat.le_of_ble_eq_true rfl) dX9_more_18 ?_
    refine g_if_eq (tgt := 49) E dX9_more_21 (by decide) (fun c6 => ?_) (fun c6 => ?_)
    · have hf := gp hf c6
      refine g_ldc2 (v := (-1000000000000000002 : Int64)) E (by decide +kernel) dX9_more_49 ?_
      cases hf
      exact g_lret E dX9_more_52
    · have hf := gn hf c6
      refine g_aload_n E 0 dX9_more_24 rfl rfl ?_
      refine g_iload_n E 3 dX9_more_25 rfl rfl ?_
      obtain ⟨q7, hq8, hf⟩ := gb hf
      refine g_callV (C := RX9) (T := TX9) (N := 20) (ci := 9) (As := [.int x3]) (rest := []) (n := 1) E 0 (fX9_isSet_c k q4.2 x3 q7 hq8) gX9_more_X9_isSet rfl rfl rfl (by decide +kernel) ⟨Nat.le_of_ble_eq_true rfl, Nat.le_of_ble_eq_true rfl⟩ rfl rfl (Nat.le_of_ble_eq_true rfl) rfl (mwG0 _ _) dX9_more_26 ?_
      refine g_if_eq (tgt := 49) E dX9_more_29 (by decide) (fun c9 => ?_) (fun c9 => ?_)
      · have hf := gp hf c9
        refine g_ldc2 (v := (-1000000000000000002 : Int64)) E (by decide +kernel) dX9_more_49 ?_
        cases hf
        exact g_lret E dX9_more_52
      · have hf := gn hf c9
        refine g_iload_n E 3 dX9_more_32 rfl rfl ?_
        refine g_iload_n E 1 dX9_more_33 rfl rfl ?_
        refine g_ishr E dX9_more_34 ?_
        refine g_iconst (v := (1 : Int32)) E dX9_more_35 (by decide) ?_
        refine g_iand E dX9_more_36 ?_
        refine g_iconst (v := (1 : Int32)) E dX9_more_37 (by decide) ?_
        refine g_icmp_eq (tgt := 49) E dX9_more_38 (by decide) (fun c10 => ?_) (fun c10 => ?_)
        · have hf := gp hf c10
          refine g_ldc2 (v := (-1000000000000000002 : Int64)) E (by decide +kernel) dX9_more_49 ?_
          cases hf
          exact g_lret E dX9_more_52
        · have hf := gn hf c10
          refine g_iload E 4 dX9_more_41 rfl ?_
          obtain ⟨q11, hq12, hf⟩ := gb hf
          refine g_callS (As := [.int x4]) (rest := []) (n := 1) E (fX9_isPart_c k q7.2 x4 q11 hq12) gX9_more_X9_isPart rfl rfl rfl (by decide +kernel) ⟨Nat.le_of_ble_eq_true rfl, Nat.le_of_ble_eq_true rfl⟩ rfl rfl (Nat.le_of_ble_eq_true rfl) dX9_more_43 ?_
          refine g_if_ne (tgt := 53) E dX9_more_46 (by decide) (fun c13 => ?_) (fun c13 => ?_)
          · have hf := gn hf c13
            refine g_aload_n E 0 dX9_more_53 rfl rfl ?_
            refine g_get (C := RX9) (T := TX9) (N := 20) (ci := 9) E 0 17 (.int (q11.2.2.1 3)) hi_X9_more_X9 (mwG0 _ _) rfl (by decide) hk_X9_more_118 rfl dX9_more_54 ?_
            refine g_if_ne (tgt := 66) E dX9_more_57 (by decide) (fun c14 => ?_) (fun c14 => ?_)
            · have hf := gn hf c14
              refine g_aload_n E 0 dX9_more_66 rfl rfl ?_
              refine g_iload_n E 2 dX9_more_67 rfl rfl ?_
              refine g_iload_n E 3 dX9_more_68 rfl rfl ?_
              refine g_iconst (v := (1 : Int32)) E dX9_more_69 (by decide) ?_
              refine g_iload_n E 1 dX9_more_70 rfl rfl ?_
              refine g_ishl E dX9_more_71 ?_
              refine g_ior E dX9_more_72 ?_
              obtain ⟨q15, hq16, hf⟩ := gb hf
              refine g_callV (C := RX9) (T := TX9) (N := 20) (ci := 9) (As := [.int x2, .int (x3 ||| (((1 : Int32) <<< (x1 &&& 31))))]) (rest := []) (n := 2) E 0 (fX9_rightOf_c k q11.2 x2 ((x3 ||| (((1 : Int32) <<< (x1 &&& 31))))) q15 hq16) gX9_more_X9_rightOf rfl rfl rfl (by decide +kernel) ⟨Nat.le_of_ble_eq_true rfl, Nat.le_of_ble_eq_true rfl⟩ rfl rfl (Nat.le_of_ble_eq_true rfl) rfl (mwG0 _ _) dX9_more_73 ?_
              refine g_aload_n E 0 dX9_more_76 rfl rfl ?_
              refine g_iload_n E 2 dX9_more_77 rfl rfl ?_
              refine g_iload_n E 3 dX9_more_78 rfl rfl ?_
              obtain ⟨q17, hq18, hf⟩ := gb hf
              refine g_callV (C := RX9) (T := TX9) (N := 20) (ci := 9) (As := [.int x2, .int x3]) (rest := [.long q15.1]) (n := 2) E 0 (fX9_rightOf_c k q15.2 x2 x3 q17 hq18) gX9_more_X9_rightOf rfl rfl rfl (by decide +kernel) ⟨Nat.le_of_ble_eq_true rfl, Nat.le_of_ble_eq_true rfl⟩ rfl rfl (Nat.le_of_ble_eq_true rfl) rfl (mwG0 _ _) dX9_more_79 ?_
              refine g_lsub E dX9_more_82 ?_
              refine g_ldc2 (v := (4 : Int64)) E (by decide +kernel) dX9_more_83 ?_
              refine g_bipush (v := (7 : Int32)) E dX9_more_86 (by decide) ?_
              obtain ⟨q19, hq20, hf⟩ := gb hf
              refine g_callS (As := [.long (4 : Int64), .int (7 : Int32)]) (rest := [.long (q15.1 - q17.1)]) (n := 2) E (fX9_power_c k q17.2 (4 : Int64) (7 : Int32) q19 hq20) gX9_more_X9_power rfl rfl rfl (by decide +kernel) ⟨Nat.le_of_ble_eq_true rfl, Nat.le_of_ble_eq_true rfl⟩ rfl rfl (Nat.le_of_ble_eq_true rfl) dX9_more_88 ?_
              refine g_iload E 4 dX9_more_91 rfl ?_
              obtain ⟨q21, hq22, hf⟩ := gb hf
              refine g_callS (As := [.long (q15.1 - q17.1), .long q19.1, .int x4]) (rest := []) (n := 3) E (fX9_lowest_c k q19.2 (q15.1 - q17.1) q19.1 x4 q21 hq22) gX9_more_X9_lowest rfl rfl rfl (by decide +kernel) ⟨Nat.le_of_ble_eq_true rfl, Nat.le_of_ble_eq_true rfl⟩ rfl rfl (Nat.le_of_ble_eq_true rfl) dX9_more_93 ?_
              cases hf
              exact g_lret E dX9_more_96
            · have hf := gp hf c14
              refine g_ldc2 (v := (-1000000000000000003 : Int64)) E (by decide +kernel) dX9_more_60 ?_
              refine g_goto (tgt := 96) E dX9_more_63 (by decide) ?_
              cases hf
              exact g_lret E dX9_more_96
          · have hf := gp hf c13
            refine g_ldc2 (v := (-1000000000000000002 : Int64)) E (by decide +kernel) dX9_more_49 ?_
            cases hf
            exact g_lret E dX9_more_52
  · have hf := gp hf c3
    refine g_ldc2 (v := (-1000000000000000001 : Int64)) E (by decide +kernel) dX9_more_8 ?_
    cases hf
    exact g_lret E dX9_more_11
theorem hi_X9_rounds_X9 : ∀ w ∈ wsX90, w ∈ wsX9_rounds := by decide +kernel
theorem hk_X9_rounds_118 : Cond.fieldLink RX9 118 "PaperMarksModel" "clauses" "I" ∈ wsX9_rounds := by decide +kernel
def rm_fX9_rounds : Room := { frames := 3, cells := 0, slots := 0, locals := 82 }
set_option maxHeartbeats 4000000 in
set_option maxRecDepth 100000 in
theorem fX9_rounds_w121 {k : gK} {X : gX} (E : gE k X cX9_rounds RX9 wsX9_rounds 13 (some .long) rm_fX9_rounds) (rc121 : St → Int32 → Int32 → Int32 → Int32 → Int64 → Int64 → Int64 → Int32 → Option (Int64 × St)) (hrc121 : ∀ (σ : St) (x1 : Int32) (x2 : Int32) (x3 : Int32) (x5 : Int32) (x6 : Int64) (x8 : Int64) (x10 : Int64) (x12 : Int32) (r : Int64 × St), rc121 σ x1 x2 x3 x5 x6 x8 x10 x12 = some r → G k X 13 (some (.long r.1)) (mw k.2.2.2 r.2) (mw k.2.2.2 σ) [(0, .ref (k.2.2.2.1 0)), (1, .int x1), (2, .int x2), (3, .int x3), (5, .int x5), (6, .long x6), (8, .long x8), (10, .long x10), (12, .int x12)] [] 121) (σ : St) (x1 : Int32) (x2 : Int32) (x3 : Int32) (x5 : Int32) (x6 : Int64) (x8 : Int64) (x10 : Int64) (x12 : Int32) (r : Int64 × St) (hf : fX9_rounds_b121 rc121 σ x1 x2 x3 x5 x6 x8 x10 x12 = some r) : G k X 13 (some (.long r.1)) (mw k.2.2.2 r.2) (mw k.2.2.2 σ) [(0, .ref (k.2.2.2.1 0)), (1, .int x1), (2, .int x2), (3, .int x3), (5, .int x5), (6, .long x6), (8, .long x8), (10, .long x10), (12, .int x12)] [] 121 := by
  unfold fX9_rounds_b121 at hf
  refine g_iload E 8 dX9_rounds_121 rfl ?_
  refine g_iload_n E 3 dX9_rounds_123 rfl rfl ?_
  refine g_icmp_ge (tgt := 157) E dX9_rounds_124 (by decide) (fun c1 => ?_) (fun c1 => ?_)
  · have hf := gp hf c1
    refine g_lload E 7 dX9_rounds_157 rfl ?_
    refine g_aload_n E 0 dX9_rounds_159 rfl rfl ?_
    refine g_iload_n E 1 dX9_rounds_160 rfl rfl ?_
    refine g_iload_n E 2 dX9_rounds_161 rfl rfl ?_
    obtain ⟨q2, hq3, hf⟩ := gb hf
    refine g_callV (C := RX9) (T := TX9) (N := 20) (ci := 9) (As := [.int x1, .int x2]) (rest := [.long x10]) (n := 2) E 0 (fX9_without_c k σ x1 x2 q2 hq3) gX9_rounds_X9_without rfl rfl rfl (by decide +kernel) ⟨Nat.le_of_ble_eq_true rfl, Nat.le_of_ble_eq_true rfl⟩ rfl rfl (Nat.le_of_ble_eq_true rfl) rfl (mwG0 _ _) dX9_rounds_162 ?_
    obtain ⟨q4, hq5, hf⟩ := gb hf
    refine g_callS (As := [.int q2.1]) (rest := [.long x10]) (n := 1) E (fX9_ones_c k q2.2 q2.1 q4 hq5) gX9_rounds_X9_ones rfl rfl rfl (by decide +kernel) ⟨Nat.le_of_ble_eq_true rfl, Nat.le_of_ble_eq_true rfl⟩ rfl rfl (Nat.le_of_ble_eq_true rfl) dX9_rounds_165 ?_
    refine g_i2l E dX9_rounds_168 ?_
    refine g_lmul E dX9_rounds_169 ?_
    refine g_lload E 5 dX9_rounds_170 rfl ?_
    refine g_iload_n E 3 dX9_rounds_172 rfl rfl ?_
    refine g_iconst (v := (1 : Int32)) E dX9_rounds_173 (by decide) ?_
    refine g_isub E dX9_rounds_174 ?_
    obtain ⟨q6, hq7, hf⟩ := gb hf
    refine g_callS (As := [.long x6, .int (x3 - (1 : Int32))]) (rest := [.long (x10 * q4.1.toInt64)]) (n := 2) E (fX9_power_c k q4.2 x6 ((x3 - (1 : Int32))) q6 hq7) gX9_rounds_X9_power rfl rfl rfl (by decide +kernel) ⟨Nat.le_of_ble_eq_true rfl, Nat.le_of_ble_eq_true rfl⟩ rfl rfl (Nat.le_of_ble_eq_true rfl) dX9_rounds_175 ?_
    refine g_iload E 4 dX9_rounds_178 rfl ?_
    obtain ⟨q8, hq9, hf⟩ := gb hf
    refine g_callS (As := [.long (x10 * q4.1.toInt64), .long q6.1, .int x5]) (rest := []) (n := 3) E (fX9_lowest_c k q6.2 (x10 * q4.1.toInt64) q6.1 x5 q8 hq9) gX9_rounds_X9_lowest rfl rfl rfl (by decide +kernel) ⟨Nat.le_of_ble_eq_true rfl, Nat.le_of_ble_eq_true rfl⟩ rfl rfl (Nat.le_of_ble_eq_true rfl) dX9_rounds_180 ?_
    cases hf
    exact g_lret E dX9_rounds_183
  · have hf := gn hf c1
    refine g_lload E 7 dX9_rounds_127 rfl ?_
    refine g_lload E 6 dX9_rounds_129 rfl ?_
    refine g_iload E 8 dX9_rounds_131 rfl ?_
    obtain ⟨q10, hq11, hf⟩ := gb hf
    refine g_callS (As := [.long x8, .int x12]) (rest := [.long x10]) (n := 2) E (fX9_power_c k σ x8 x12 q10 hq11) gX9_rounds_X9_power rfl rfl rfl (by decide +kernel) ⟨Nat.le_of_ble_eq_true rfl, Nat.le_of_ble_eq_true rfl⟩ rfl rfl (Nat.le_of_ble_eq_true rfl) dX9_rounds_133 ?_
    refine g_lload E 5 dX9_rounds_136 rfl ?_
    refine g_iload_n E 3 dX9_rounds_138 rfl rfl ?_
    refine g_iconst (v := (1 : Int32)) E dX9_rounds_139 (by decide) ?_
    refine g_isub E dX9_rounds_140 ?_
    refine g_iload E 8 dX9_rounds_141 rfl ?_
    refine g_isub E dX9_rounds_143 ?_
    obtain ⟨q12, hq13, hf⟩ := gb hf
    refine g_callS (As := [.long x6, .int (((x3 - (1 : Int32))) - x12)]) (rest := [.long q10.1, .long x10]) (n := 2) E (fX9_power_c k q10.2 x6 ((((x3 - (1 : Int32))) - x12)) q12 hq13) gX9_rounds_X9_power rfl rfl rfl (by decide +kernel) ⟨Nat.le_of_ble_eq_true rfl, Nat.le_of_ble_eq_true rfl⟩ rfl rfl (Nat.le_of_ble_eq_true rfl) dX9_rounds_144 ?_
    refine g_lmul E dX9_rounds_147 ?_
    refine g_ladd E dX9_rounds_148 ?_
    refine g_lstore E [(10, .long (x10 + (q10.1 * q12.1))), (0, .ref (k.2.2.2.1 0)), (1, .int x1), (2, .int x2), (3, .int x3), (5, .int x5), (6, .long x6), (8, .long x8), (12, .int x12)] dX9_rounds_149 (by decide) rfl ?_
    refine g_iinc E 8 [(12, .int (x12 + (1 : Int32))), (10, .long (x10 + (q10.1 * q12.1))), (0, .ref (k.2.2.2.1 0)), (1, .int x1), (2, .int x2), (3, .int x3), (5, .int x5), (6, .long x6), (8, .long x8)] (x12 + (1 : Int32)) dX9_rounds_151 rfl (by rfl) (by decide) rfl ?_
    refine g_goto (tgt := 121) E dX9_rounds_154 (by decide) ?_
    exact g_sub [2, 3, 4, 5, 6, 7, 8, 1, 0] rfl (hrc121 q12.2 x1 x2 x3 x5 x6 x8 (x10 + (q10.1 * q12.1)) (x12 + (1 : Int32)) r hf)
theorem fX9_rounds_v121 {k : gK} {X : gX} (E : gE k X cX9_rounds RX9 wsX9_rounds 13 (some .long) rm_fX9_rounds) : ∀ (n : Nat) (σ : St) (x1 : Int32) (x2 : Int32) (x3 : Int32) (x5 : Int32) (x6 : Int64) (x8 : Int64) (x10 : Int64) (x12 : Int32) (r : Int64 × St), fX9_rounds_l121 n σ x1 x2 x3 x5 x6 x8 x10 x12 = some r → G k X 13 (some (.long r.1)) (mw k.2.2.2 r.2) (mw k.2.2.2 σ) [(0, .ref (k.2.2.2.1 0)), (1, .int x1), (2, .int x2), (3, .int x3), (5, .int x5), (6, .long x6), (8, .long x8), (10, .long x10), (12, .int x12)] [] 121 := by
  intro n
  induction n with
  | zero => intro σ x1 x2 x3 x5 x6 x8 x10 x12 r hf; cases hf
  | succ n ih => intro σ x1 x2 x3 x5 x6 x8 x10 x12 r hf; exact fX9_rounds_w121 E (fX9_rounds_l121 n) ih σ x1 x2 x3 x5 x6 x8 x10 x12 r hf
set_option maxHeartbeats 4000000 in
set_option maxRecDepth 100000 in
theorem fX9_rounds_c (k : gK) (σ : St) (x1 : Int32) (x2 : Int32) (x3 : Int32) (x4 : Int32) (x5 : Int32) (r : Int64 × St) (hf : fX9_rounds σ x1 x2 x3 x4 x5 = some r) : MC k yX9_rounds wsX9_rounds rm_fX9_rounds [.ref (k.2.2.2.1 0), .int x1, .int x2, .int x3, .int x4, .int x5] (mw k.2.2.2 σ) (some (.long r.1)) (mw k.2.2.2 r.2) := by
  refine MC_of (cc := cX9_rounds) (maxL := 13) (ret := (some .long)) (own := RX9) (lvs := [(0, .ref (k.2.2.2.1 0)), (1, .int x1), (2, .int x2), (3, .int x3), (4, .int x4), (5, .int x5)]) (by decide) rfl rfl (Nat.le_of_ble_eq_true rfl) rfl (fun X E => ?_)
  unfold fX9_rounds at hf
  refine g_aload_n E 0 dX9_rounds_0 rfl rfl ?_
  refine g_iload_n E 1 dX9_rounds_1 rfl rfl ?_
  obtain ⟨q1, hq2, hf⟩ := gb hf
  refine g_callV (C := RX9) (T := TX9) (N := 20) (ci := 9) (As := [.int x1]) (rest := []) (n := 1) E 0 (fX9_isPaper_c k σ x1 q1 hq2) gX9_rounds_X9_isPaper rfl rfl rfl (by decide +kernel) ⟨Nat.le_of_ble_eq_true rfl, Nat.le_of_ble_eq_true rfl⟩ rfl rfl (Nat.le_of_ble_eq_true rfl) rfl (mwG0 _ _) dX9_rounds_2 ?_
  refine g_if_ne (tgt := 12) E dX9_rounds_5 (by decide) (fun c3 => ?_) (fun c3 => ?_)
  · have hf := gn hf c3
    refine g_aload_n E 0 dX9_rounds_12 rfl rfl ?_
    refine g_iload_n E 2 dX9_rounds_13 rfl rfl ?_
    obtain ⟨q4, hq5, hf⟩ := gb hf
    refine g_callV (C := RX9) (T := TX9) (N := 20) (ci := 9) (As := [.int x2]) (rest := []) (n := 1) E 0 (fX9_isSet_c k q1.2 x2 q4 hq5) gX9_rounds_X9_isSet rfl rfl rfl (by decide +kernel) ⟨Nat.le_of_ble_eq_true rfl, Nat.le_of_ble_eq_true rfl⟩ rfl rfl (Nat.le_of_ble_eq_true rfl) rfl (mwG0 _ _) dX9_rounds_14 ?_
    refine g_if_eq (tgt := 51) E dX9_rounds_17 (by decide) (fun c6 => ?_) (fun c6 => ?_)
    · have hf := gp hf c6
      refine g_ldc2 (v := (-1000000000000000002 : Int64)) E (by decide +kernel) dX9_rounds_51 ?_
      cases hf
      exact g_lret E dX9_rounds_54
    · have hf := gn hf c6
      refine g_iload_n E 3 dX9_rounds_20 rfl rfl ?_
      refine g_i2l E dX9_rounds_21 ?_
      refine g_lconst (v := (1 : Int64)) E dX9_rounds_22 (by decide) ?_
      refine g_ldc2 (v := (4 : Int64)) E (by decide +kernel) dX9_rounds_23 ?_
      obtain ⟨q7, hq8, hf⟩ := gb hf
      refine g_callS (As := [.long x3.toInt64, .long (1 : Int64), .long (4 : Int64)]) (rest := []) (n := 3) E (fX9_in_c k q4.2 x3.toInt64 (1 : Int64) (4 : Int64) q7 hq8) gX9_rounds_X9_in rfl rfl rfl (by decide +kernel) ⟨Nat.le_of_ble_eq_true rfl, Nat.le_of_ble_eq_true rfl⟩ rfl rfl (Nat.le_of_ble_eq_true rfl) dX9_rounds_26 ?_
      refine g_if_eq (tgt := 51) E dX9_rounds_29 (by decide) (fun c9 => ?_) (fun c9 => ?_)
      · have hf := gp hf c9
        refine g_ldc2 (v := (-1000000000000000002 : Int64)) E (by decide +kernel) dX9_rounds_51 ?_
        cases hf
        exact g_lret E dX9_rounds_54
      · have hf := gn hf c9
        refine g_iload E 4 dX9_rounds_32 rfl ?_
        refine g_i2l E dX9_rounds_34 ?_
        refine g_lconst (v := (0 : Int64)) E dX9_rounds_35 (by decide) ?_
        refine g_lconst (v := (1 : Int64)) E dX9_rounds_36 (by decide) ?_
        obtain ⟨q10, hq11, hf⟩ := gb hf
        refine g_callS (As := [.long x4.toInt64, .long (0 : Int64), .long (1 : Int64)]) (rest := []) (n := 3) E (fX9_in_c k q7.2 x4.toInt64 (0 : Int64) (1 : Int64) q10 hq11) gX9_rounds_X9_in rfl rfl rfl (by decide +kernel) ⟨Nat.le_of_ble_eq_true rfl, Nat.le_of_ble_eq_true rfl⟩ rfl rfl (Nat.le_of_ble_eq_true rfl) dX9_rounds_37 ?_
        refine g_if_eq (tgt := 51) E dX9_rounds_40 (by decide) (fun c12 => ?_) (fun c12 => ?_)
        · have hf := gp hf c12
          refine g_ldc2 (v := (-1000000000000000002 : Int64)) E (by decide +kernel) dX9_rounds_51 ?_
          cases hf
          exact g_lret E dX9_rounds_54
        · have hf := gn hf c12
          refine g_iload E 5 dX9_rounds_43 rfl ?_
          obtain ⟨q13, hq14, hf⟩ := gb hf
          refine g_callS (As := [.int x5]) (rest := []) (n := 1) E (fX9_isPart_c k q10.2 x5 q13 hq14) gX9_rounds_X9_isPart rfl rfl rfl (by decide +kernel) ⟨Nat.le_of_ble_eq_true rfl, Nat.le_of_ble_eq_true rfl⟩ rfl rfl (Nat.le_of_ble_eq_true rfl) dX9_rounds_45 ?_
          refine g_if_ne (tgt := 55) E dX9_rounds_48 (by decide) (fun c15 => ?_) (fun c15 => ?_)
          · have hf := gn hf c15
            refine g_aload_n E 0 dX9_rounds_55 rfl rfl ?_
            refine g_get (C := RX9) (T := TX9) (N := 20) (ci := 9) E 0 17 (.int (q13.2.2.1 3)) hi_X9_rounds_X9 (mwG0 _ _) rfl (by decide) hk_X9_rounds_118 rfl dX9_rounds_56 ?_
            refine g_if_ne (tgt := 66) E dX9_rounds_59 (by decide) (fun c16 => ?_) (fun c16 => ?_)
            · have hf := gn hf c16
              refine g_aload_n E 0 dX9_rounds_66 rfl rfl ?_
              refine g_iload_n E 1 dX9_rounds_67 rfl rfl ?_
              refine g_iload_n E 2 dX9_rounds_68 rfl rfl ?_
              obtain ⟨q17, hq18, hf⟩ := gb hf
              refine g_callV (C := RX9) (T := TX9) (N := 20) (ci := 9) (As := [.int x1, .int x2]) (rest := []) (n := 2) E 0 (fX9_allOf_c k q13.2 x1 x2 q17 hq18) gX9_rounds_X9_allOf rfl rfl rfl (by decide +kernel) ⟨Nat.le_of_ble_eq_true rfl, Nat.le_of_ble_eq_true rfl⟩ rfl rfl (Nat.le_of_ble_eq_true rfl) rfl (mwG0 _ _) dX9_rounds_69 ?_
              refine g_lstore E [(6, .long q17.1), (0, .ref (k.2.2.2.1 0)), (1, .int x1), (2, .int x2), (3, .int x3), (4, .int x4), (5, .int x5)] dX9_rounds_72 (by decide) rfl ?_
              refine g_lload E 0 dX9_rounds_74 rfl ?_
              refine g_aload_n E 1 dX9_rounds_76 rfl rfl ?_
              refine g_iload_n E 2 dX9_rounds_77 rfl rfl ?_
              refine g_iload_n E 3 dX9_rounds_78 rfl rfl ?_
              obtain ⟨q19, hq20, hf⟩ := gb hf
              refine g_callV (C := RX9) (T := TX9) (N := 20) (ci := 9) (As := [.int x1, .int x2]) (rest := [.long q17.1]) (n := 2) E 0 (fX9_takenOf_c k q17.2 x1 x2 q19 hq20) gX9_rounds_X9_takenOf rfl rfl rfl (by decide +kernel) ⟨Nat.le_of_ble_eq_true rfl, Nat.le_of_ble_eq_true rfl⟩ rfl rfl (Nat.le_of_ble_eq_true rfl) rfl (mwG0 _ _) dX9_rounds_79 ?_
              refine g_lsub E dX9_rounds_82 ?_
              refine g_lstore E [(8, .long (q17.1 - q19.1)), (6, .long q17.1), (0, .ref (k.2.2.2.1 0)), (1, .int x1), (2, .int x2), (3, .int x3), (4, .int x4), (5, .int x5)] dX9_rounds_83 (by decide) rfl ?_
              refine g_iload E 6 dX9_rounds_85 rfl ?_
              refine g_if_ne (tgt := 115) E dX9_rounds_87 (by decide) (fun c21 => ?_) (fun c21 => ?_)
              · have hf := gn hf c21
                refine g_lconst (v := (0 : Int64)) E dX9_rounds_115 (by decide) ?_
                refine g_lstore E [(10, .long (0 : Int64)), (8, .long (q17.1 - q19.1)), (6, .long q17.1), (0, .ref (k.2.2.2.1 0)), (1, .int x1), (2, .int x2), (3, .int x3), (4, .int x4), (5, .int x5)] dX9_rounds_116 (by decide) rfl ?_
                refine g_iconst (v := (0 : Int32)) E dX9_rounds_118 (by decide) ?_
                refine g_istore E [(12, .int (0 : Int32)), (10, .long (0 : Int64)), (8, .long (q17.1 - q19.1)), (6, .long q17.1), (0, .ref (k.2.2.2.1 0)), (1, .int x1), (2, .int x2), (3, .int x3), (4, .int x4), (5, .int x5)] dX9_rounds_119 (by decide) rfl ?_
                exact g_sub [4, 5, 6, 7, 9, 3, 2, 1, 0] rfl (fX9_rounds_v121 E gF q19.2 x1 x2 x3 x5 q17.1 (q17.1 - q19.1) (0 : Int64) (0 : Int32) r hf)
              · have hf := gp hf c21
                refine g_lload E 1 dX9_rounds_90 rfl ?_
                refine g_iload_n E 5 dX9_rounds_92 rfl rfl ?_
                obtain ⟨q22, hq23, hf⟩ := gb hf
                refine g_callS (As := [.long q17.1, .int x3]) (rest := []) (n := 2) E (fX9_power_c k q19.2 q17.1 x3 q22 hq23) gX9_rounds_X9_power rfl rfl rfl (by decide +kernel) ⟨Nat.le_of_ble_eq_true rfl, Nat.le_of_ble_eq_true rfl⟩ rfl rfl (Nat.le_of_ble_eq_true rfl) dX9_rounds_93 ?_
                refine g_lload E 0 dX9_rounds_96 rfl ?_
                refine g_iload_n E 5 dX9_rounds_98 rfl rfl ?_
                obtain ⟨q24, hq25, hf⟩ := gb hf
                refine g_callS (As := [.long (q17.1 - q19.1), .int x3]) (rest := [.long q22.1]) (n := 2) E (fX9_power_c k q22.2 (q17.1 - q19.1) x3 q24 hq25) gX9_rounds_X9_power rfl rfl rfl (by decide +kernel) ⟨Nat.le_of_ble_eq_true rfl, Nat.le_of_ble_eq_true rfl⟩ rfl rfl (Nat.le_of_ble_eq_true rfl) dX9_rounds_99 ?_
                refine g_lsub E dX9_rounds_102 ?_
                refine g_lload E 1 dX9_rounds_103 rfl ?_
                refine g_iload_n E 5 dX9_rounds_105 rfl rfl ?_
                obtain ⟨q26, hq27, hf⟩ := gb hf
                refine g_callS (As := [.long q17.1, .int x3]) (rest := [.long (q22.1 - q24.1)]) (n := 2) E (fX9_power_c k q24.2 q17.1 x3 q26 hq27) gX9_rounds_X9_power rfl rfl rfl (by decide +kernel) ⟨Nat.le_of_ble_eq_true rfl, Nat.le_of_ble_eq_true rfl⟩ rfl rfl (Nat.le_of_ble_eq_true rfl) dX9_rounds_106 ?_
                refine g_iload E 7 dX9_rounds_109 rfl ?_
                obtain ⟨q28, hq29, hf⟩ := gb hf
                refine g_callS (As := [.long (q22.1 - q24.1), .long q26.1, .int x5]) (rest := []) (n := 3) E (fX9_lowest_c k q26.2 (q22.1 - q24.1) q26.1 x5 q28 hq29) gX9_rounds_X9_lowest rfl rfl rfl (by decide +kernel) ⟨Nat.le_of_ble_eq_true rfl, Nat.le_of_ble_eq_true rfl⟩ rfl rfl (Nat.le_of_ble_eq_true rfl) dX9_rounds_111 ?_
                cases hf
                exact g_lret E dX9_rounds_114
            · have hf := gp hf c16
              refine g_ldc2 (v := (-1000000000000000003 : Int64)) E (by decide +kernel) dX9_rounds_62 ?_
              cases hf
              exact g_lret E dX9_rounds_65
          · have hf := gp hf c15
            refine g_ldc2 (v := (-1000000000000000002 : Int64)) E (by decide +kernel) dX9_rounds_51 ?_
            cases hf
            exact g_lret E dX9_rounds_54
  · have hf := gp hf c3
    refine g_ldc2 (v := (-1000000000000000001 : Int64)) E (by decide +kernel) dX9_rounds_8 ?_
    cases hf
    exact g_lret E dX9_rounds_11
theorem hi_X9_likeOf_X9 : ∀ w ∈ wsX90, w ∈ wsX9_likeOf := by decide +kernel
theorem hk_X9_likeOf_63 : Cond.fieldLink RX9 63 "PaperMarksModel" "judges" "I" ∈ wsX9_likeOf := by decide +kernel
theorem hk_X9_likeOf_34 : Cond.fieldLink RX9 34 "PaperMarksModel" "marks" "[I" ∈ wsX9_likeOf := by decide +kernel
def rm_fX9_likeOf : Room := { frames := 2, cells := 0, slots := 0, locals := 46 }
set_option maxHeartbeats 4000000 in
set_option maxRecDepth 100000 in
theorem fX9_likeOf_w90 {k : gK} {X : gX} (E : gE k X cX9_likeOf RX9 wsX9_likeOf 10 (some .long) rm_fX9_likeOf) (rc5 : St → Int32 → Int32 → Int64 → Int32 → Option (Int64 × St)) (hrc5 : ∀ (σ : St) (x1 : Int32) (x2 : Int32) (x3 : Int64) (x5 : Int32) (r : Int64 × St), rc5 σ x1 x2 x3 x5 = some r → G k X 10 (some (.long r.1)) (mw k.2.2.2 r.2) (mw k.2.2.2 σ) [(0, .ref (k.2.2.2.1 0)), (1, .int x1), (2, .int x2), (3, .long x3), (5, .int x5)] [] 5) (σ : St) (x1 : Int32) (x2 : Int32) (x5 : Int32) (t0 : Int64) (t1 : Int64) (r : Int64 × St) (hf : fX9_likeOf_b90 rc5 σ x1 x2 x5 t0 t1 = some r) : G k X 10 (some (.long r.1)) (mw k.2.2.2 r.2) (mw k.2.2.2 σ) [(0, .ref (k.2.2.2.1 0)), (1, .int x1), (2, .int x2), (5, .int x5)] [.long t1, .long t0] 90 := by
  unfold fX9_likeOf_b90 at hf
  refine g_lmul E dX9_likeOf_90 ?_
  refine g_lstore_n E [(3, .long (t0 * t1)), (0, .ref (k.2.2.2.1 0)), (1, .int x1), (2, .int x2), (5, .int x5)] dX9_likeOf_91 rfl (by decide) rfl ?_
  refine g_iinc E 4 [(5, .int (x5 + (1 : Int32))), (3, .long (t0 * t1)), (0, .ref (k.2.2.2.1 0)), (1, .int x1), (2, .int x2)] (x5 + (1 : Int32)) dX9_likeOf_92 rfl (by rfl) (by decide) rfl ?_
  refine g_goto (tgt := 5) E dX9_likeOf_95 (by decide) ?_
  exact g_sub [2, 3, 4, 1, 0] rfl (hrc5 σ x1 x2 (t0 * t1) (x5 + (1 : Int32)) r hf)
set_option maxHeartbeats 4000000 in
set_option maxRecDepth 100000 in
theorem fX9_likeOf_w69 {k : gK} {X : gX} (E : gE k X cX9_likeOf RX9 wsX9_likeOf 10 (some .long) rm_fX9_likeOf) (rc5 : St → Int32 → Int32 → Int64 → Int32 → Option (Int64 × St)) (hrc5 : ∀ (σ : St) (x1 : Int32) (x2 : Int32) (x3 : Int64) (x5 : Int32) (r : Int64 × St), rc5 σ x1 x2 x3 x5 = some r → G k X 10 (some (.long r.1)) (mw k.2.2.2 r.2) (mw k.2.2.2 σ) [(0, .ref (k.2.2.2.1 0)), (1, .int x1), (2, .int x2), (3, .long x3), (5, .int x5)] [] 5) (rc33 : St → Int32 → Int32 → Int64 → Int32 → Int32 → Int64 → Int32 → Option (Int64 × St)) (hrc33 : ∀ (σ : St) (x1 : Int32) (x2 : Int32) (x3 : Int64) (x5 : Int32) (x6 : Int32) (x7 : Int64) (x9 : Int32) (r : Int64 × St), rc33 σ x1 x2 x3 x5 x6 x7 x9 = some r → G k X 10 (some (.long r.1)) (mw k.2.2.2 r.2) (mw k.2.2.2 σ) [(0, .ref (k.2.2.2.1 0)), (1, .int x1), (2, .int x2), (3, .long x3), (5, .int x5), (6, .int x6), (7, .long x7), (9, .int x9)] [] 33) (σ : St) (x1 : Int32) (x2 : Int32) (x3 : Int64) (x5 : Int32) (x6 : Int32) (x9 : Int32) (t0 : Int64) (t1 : Int64) (r : Int64 × St) (hf : fX9_likeOf_b69 rc5 rc33 σ x1 x2 x3 x5 x6 x9 t0 t1 = some r) : G k X 10 (some (.long r.1)) (mw k.2.2.2 r.2) (mw k.2.2.2 σ) [(0, .ref (k.2.2.2.1 0)), (1, .int x1), (2, .int x2), (3, .long x3), (5, .int x5), (6, .int x6), (9, .int x9)] [.long t1, .long t0] 69 := by
  unfold fX9_likeOf_b69 at hf
  refine g_ladd E dX9_likeOf_69 ?_
  refine g_lstore E [(7, .long (t0 + t1)), (0, .ref (k.2.2.2.1 0)), (1, .int x1), (2, .int x2), (3, .long x3), (5, .int x5), (6, .int x6), (9, .int x9)] dX9_likeOf_70 (by decide) rfl ?_
  refine g_iinc E 7 [(9, .int (x9 + (1 : Int32))), (7, .long (t0 + t1)), (0, .ref (k.2.2.2.1 0)), (1, .int x1), (2, .int x2), (3, .long x3), (5, .int x5), (6, .int x6)] (x9 + (1 : Int32)) dX9_likeOf_72 rfl (by rfl) (by decide) rfl ?_
  refine g_goto (tgt := 33) E dX9_likeOf_75 (by decide) ?_
  exact g_sub [2, 3, 4, 5, 6, 7, 1, 0] rfl (hrc33 σ x1 x2 x3 x5 x6 (t0 + t1) (x9 + (1 : Int32)) r hf)
set_option maxHeartbeats 4000000 in
set_option maxRecDepth 100000 in
theorem fX9_likeOf_w33 {k : gK} {X : gX} (E : gE k X cX9_likeOf RX9 wsX9_likeOf 10 (some .long) rm_fX9_likeOf) (rc5 : St → Int32 → Int32 → Int64 → Int32 → Option (Int64 × St)) (hrc5 : ∀ (σ : St) (x1 : Int32) (x2 : Int32) (x3 : Int64) (x5 : Int32) (r : Int64 × St), rc5 σ x1 x2 x3 x5 = some r → G k X 10 (some (.long r.1)) (mw k.2.2.2 r.2) (mw k.2.2.2 σ) [(0, .ref (k.2.2.2.1 0)), (1, .int x1), (2, .int x2), (3, .long x3), (5, .int x5)] [] 5) (rc33 : St → Int32 → Int32 → Int64 → Int32 → Int32 → Int64 → Int32 → Option (Int64 × St)) (hrc33 : ∀ (σ : St) (x1 : Int32) (x2 : Int32) (x3 : Int64) (x5 : Int32) (x6 : Int32) (x7 : Int64) (x9 : Int32) (r : Int64 × St), rc33 σ x1 x2 x3 x5 x6 x7 x9 = some r → G k X 10 (some (.long r.1)) (mw k.2.2.2 r.2) (mw k.2.2.2 σ) [(0, .ref (k.2.2.2.1 0)), (1, .int x1), (2, .int x2), (3, .long x3), (5, .int x5), (6, .int x6), (7, .long x7), (9, .int x9)] [] 33) (σ : St) (x1 : Int32) (x2 : Int32) (x3 : Int64) (x5 : Int32) (x6 : Int32) (x7 : Int64) (x9 : Int32) (r : Int64 × St) (hf : fX9_likeOf_b33 rc5 rc33 σ x1 x2 x3 x5 x6 x7 x9 = some r) : G k X 10 (some (.long r.1)) (mw k.2.2.2 r.2) (mw k.2.2.2 σ) [(0, .ref (k.2.2.2.1 0)), (1, .int x1), (2, .int x2), (3, .long x3), (5, .int x5), (6, .int x6), (7, .long x7), (9, .int x9)] [] 33 := by
  unfold fX9_likeOf_b33 at hf
  refine g_iload E 7 dX9_likeOf_33 rfl ?_
  refine g_iconst (v := (3 : Int32)) E dX9_likeOf_35 (by decide) ?_
  refine g_icmp_ge (tgt := 78) E dX9_likeOf_36 (by decide) (fun c1 => ?_) (fun c1 => ?_)
  · have hf := gp hf c1
    refine g_lload_n E 3 dX9_likeOf_78 rfl rfl ?_
    refine g_iload E 5 dX9_likeOf_79 rfl ?_
    refine g_if_ge (tgt := 88) E dX9_likeOf_81 (by decide) (fun c2 => ?_) (fun c2 => ?_)
    · have hf := gp hf c2
      refine g_lload E 6 dX9_likeOf_88 rfl ?_
      exact g_sub [0, 1, 2, 4] rfl (fX9_likeOf_w90 E rc5 hrc5 σ x1 x2 x5 x3 x7 r hf)
    · have hf := gn hf c2
      refine g_lconst (v := (1 : Int64)) E dX9_likeOf_84 (by decide) ?_
      refine g_goto (tgt := 90) E dX9_likeOf_85 (by decide) ?_
      exact g_sub [0, 1, 2, 4] rfl (fX9_likeOf_w90 E rc5 hrc5 σ x1 x2 x5 x3 (1 : Int64) r hf)
  · have hf := gn hf c1
    refine g_lload E 6 dX9_likeOf_39 rfl ?_
    refine g_aload_n E 0 dX9_likeOf_41 rfl rfl ?_
    refine g_iload E 4 dX9_likeOf_42 rfl ?_
    refine g_iload_n E 1 dX9_likeOf_44 rfl rfl ?_
    refine g_iload_n E 2 dX9_likeOf_45 rfl rfl ?_
    refine g_iload E 7 dX9_likeOf_46 rfl ?_
    obtain ⟨q3, hq4, hf⟩ := gb hf
    refine g_callV (C := RX9) (T := TX9) (N := 20) (ci := 9) (As := [.int x5, .int x1, .int x2, .int x9]) (rest := [.long x7]) (n := 4) E 0 (fX9_markOf_c k σ x5 x1 x2 x9 q3 hq4) gX9_likeOf_X9_markOf rfl rfl rfl (by decide +kernel) ⟨Nat.le_of_ble_eq_true rfl, Nat.le_of_ble_eq_true rfl⟩ rfl rfl (Nat.le_of_ble_eq_true rfl) rfl (mwG0 _ _) dX9_likeOf_48 ?_
    refine g_iload E 5 dX9_likeOf_51 rfl ?_
    refine g_icmp_ne (tgt := 68) E dX9_likeOf_53 (by decide) (fun c5 => ?_) (fun c5 => ?_)
    · have hf := gn hf c5
      refine g_lconst (v := (0 : Int64)) E dX9_likeOf_68 (by decide) ?_
      exact g_sub [0, 1, 2, 3, 4, 5, 7] rfl (fX9_likeOf_w69 E rc5 hrc5 rc33 hrc33 q3.2 x1 x2 x3 x5 x6 x9 x7 (0 : Int64) r hf)
    · have hf := gp hf c5
      refine g_aload_n E 0 dX9_likeOf_56 rfl rfl ?_
      refine g_iload E 4 dX9_likeOf_57 rfl ?_
      refine g_iload E 7 dX9_likeOf_59 rfl ?_
      obtain ⟨q6, hq7, hf⟩ := gb hf
      refine g_callV (C := RX9) (T := TX9) (N := 20) (ci := 9) (As := [.int x5, .int x9]) (rest := [.long x7]) (n := 2) E 0 (fX9_quarters_c k q3.2 x5 x9 q6 hq7) gX9_likeOf_X9_quarters rfl rfl rfl (by decide +kernel) ⟨Nat.le_of_ble_eq_true rfl, Nat.le_of_ble_eq_true rfl⟩ rfl rfl (Nat.le_of_ble_eq_true rfl) rfl (mwG0 _ _) dX9_likeOf_61 ?_
      refine g_i2l E dX9_likeOf_64 ?_
      refine g_goto (tgt := 69) E dX9_likeOf_65 (by decide) ?_
      exact g_sub [0, 1, 2, 3, 4, 5, 7] rfl (fX9_likeOf_w69 E rc5 hrc5 rc33 hrc33 q6.2 x1 x2 x3 x5 x6 x9 x7 q6.1.toInt64 r hf)
theorem fX9_likeOf_v33 {k : gK} {X : gX} (E : gE k X cX9_likeOf RX9 wsX9_likeOf 10 (some .long) rm_fX9_likeOf) (rc5 : St → Int32 → Int32 → Int64 → Int32 → Option (Int64 × St)) (hrc5 : ∀ (σ : St) (x1 : Int32) (x2 : Int32) (x3 : Int64) (x5 : Int32) (r : Int64 × St), rc5 σ x1 x2 x3 x5 = some r → G k X 10 (some (.long r.1)) (mw k.2.2.2 r.2) (mw k.2.2.2 σ) [(0, .ref (k.2.2.2.1 0)), (1, .int x1), (2, .int x2), (3, .long x3), (5, .int x5)] [] 5) : ∀ (n : Nat) (σ : St) (x1 : Int32) (x2 : Int32) (x3 : Int64) (x5 : Int32) (x6 : Int32) (x7 : Int64) (x9 : Int32) (r : Int64 × St), fX9_likeOf_l33 rc5 n σ x1 x2 x3 x5 x6 x7 x9 = some r → G k X 10 (some (.long r.1)) (mw k.2.2.2 r.2) (mw k.2.2.2 σ) [(0, .ref (k.2.2.2.1 0)), (1, .int x1), (2, .int x2), (3, .long x3), (5, .int x5), (6, .int x6), (7, .long x7), (9, .int x9)] [] 33 := by
  intro n
  induction n with
  | zero => intro σ x1 x2 x3 x5 x6 x7 x9 r hf; cases hf
  | succ n ih => intro σ x1 x2 x3 x5 x6 x7 x9 r hf; exact fX9_likeOf_w33 E rc5 hrc5 (fX9_likeOf_l33 rc5 n) ih σ x1 x2 x3 x5 x6 x7 x9 r hf
set_option maxHeartbeats 4000000 in
set_option maxRecDepth 100000 in
theorem fX9_likeOf_w5 {k : gK} {X : gX} (E : gE k X cX9_likeOf RX9 wsX9_likeOf 10 (some .long) rm_fX9_likeOf) (rc5 : St → Int32 → Int32 → Int64 → Int32 → Option (Int64 × St)) (hrc5 : ∀ (σ : St) (x1 : Int32) (x2 : Int32) (x3 : Int64) (x5 : Int32) (r : Int64 × St), rc5 σ x1 x2 x3 x5 = some r → G k X 10 (some (.long r.1)) (mw k.2.2.2 r.2) (mw k.2.2.2 σ) [(0, .ref (k.2.2.2.1 0)), (1, .int x1), (2, .int x2), (3, .long x3), (5, .int x5)] [] 5) (σ : St) (x1 : Int32) (x2 : Int32) (x3 : Int64) (x5 : Int32) (r : Int64 × St) (hf : fX9_likeOf_b5 rc5 σ x1 x2 x3 x5 = some r) : G k X 10 (some (.long r.1)) (mw k.2.2.2 r.2) (mw k.2.2.2 σ) [(0, .ref (k.2.2.2.1 0)), (1, .int x1), (2, .int x2), (3, .long x3), (5, .int x5)] [] 5 := by
  unfold fX9_likeOf_b5 at hf
  refine g_iload E 4 dX9_likeOf_5 rfl ?_
  refine g_aload_n E 0 dX9_likeOf_7 rfl rfl ?_
  refine g_get (C := RX9) (T := TX9) (N := 20) (ci := 9) E 0 3 (.int (σ.2.1 0)) hi_X9_likeOf_X9 (mwG0 _ _) rfl (by decide) hk_X9_likeOf_63 rfl dX9_likeOf_8 ?_
  refine g_icmp_ge (tgt := 98) E dX9_likeOf_11 (by decide) (fun c1 => ?_) (fun c1 => ?_)
  · have hf := gp hf c1
    refine g_lload_n E 3 dX9_likeOf_98 rfl rfl ?_
    cases hf
    exact g_lret E dX9_likeOf_99
  · have hf := gn hf c1
    refine g_aload_n E 0 dX9_likeOf_14 rfl rfl ?_
    refine g_get (C := RX9) (T := TX9) (N := 20) (ci := 9) E 0 10 (.ref (k.2.2.2.1 9)) hi_X9_likeOf_X9 (mwG0 _ _) rfl (by decide) hk_X9_likeOf_34 rfl dX9_likeOf_15 ?_
    refine g_iload E 4 dX9_likeOf_18 rfl ?_
    refine g_iload_n E 1 dX9_likeOf_20 rfl rfl ?_
    obtain ⟨q2, hq3, hf⟩ := gb hf
    refine g_callS (As := [.int x5, .int x1]) (rest := [.ref (k.2.2.2.1 9)]) (n := 2) E (fX9_at_c k σ x5 x1 q2 hq3) gX9_likeOf_X9_at rfl rfl rfl (by decide +kernel) ⟨Nat.le_of_ble_eq_true rfl, Nat.le_of_ble_eq_true rfl⟩ rfl rfl (Nat.le_of_ble_eq_true rfl) dX9_likeOf_21 ?_
    obtain ⟨hi4, hf⟩ := gd hf
    refine g_iald E 9 (q2.2.1 9) (mwG9 _ _) hi4 dX9_likeOf_24 ?_
    refine g_istore E [(6, .int (q2.2.1 9 q2.1.toNatClampNeg)), (0, .ref (k.2.2.2.1 0)), (1, .int x1), (2, .int x2), (3, .long x3), (5, .int x5)] dX9_likeOf_25 (by decide) rfl ?_
    refine g_lconst (v := (0 : Int64)) E dX9_likeOf_27 (by decide) ?_
    refine g_lstore E [(7, .long (0 : Int64)), (6, .int (q2.2.1 9 q2.1.toNatClampNeg)), (0, .ref (k.2.2.2.1 0)), (1, .int x1), (2, .int x2), (3, .long x3), (5, .int x5)] dX9_likeOf_28 (by decide) rfl ?_
    refine g_iconst (v := (0 : Int32)) E dX9_likeOf_30 (by decide) ?_
    refine g_istore E [(9, .int (0 : Int32)), (7, .long (0 : Int64)), (6, .int (q2.2.1 9 q2.1.toNatClampNeg)), (0, .ref (k.2.2.2.1 0)), (1, .int x1), (2, .int x2), (3, .long x3), (5, .int x5)] dX9_likeOf_31 (by decide) rfl ?_
    exact g_sub [3, 4, 5, 6, 7, 2, 1, 0] rfl (fX9_likeOf_v33 E rc5 hrc5 gF q2.2 x1 x2 x3 x5 (q2.2.1 9 q2.1.toNatClampNeg) (0 : Int64) (0 : Int32) r hf)
theorem fX9_likeOf_v5 {k : gK} {X : gX} (E : gE k X cX9_likeOf RX9 wsX9_likeOf 10 (some .long) rm_fX9_likeOf) : ∀ (n : Nat) (σ : St) (x1 : Int32) (x2 : Int32) (x3 : Int64) (x5 : Int32) (r : Int64 × St), fX9_likeOf_l5 n σ x1 x2 x3 x5 = some r → G k X 10 (some (.long r.1)) (mw k.2.2.2 r.2) (mw k.2.2.2 σ) [(0, .ref (k.2.2.2.1 0)), (1, .int x1), (2, .int x2), (3, .long x3), (5, .int x5)] [] 5 := by
  intro n
  induction n with
  | zero => intro σ x1 x2 x3 x5 r hf; cases hf
  | succ n ih => intro σ x1 x2 x3 x5 r hf; exact fX9_likeOf_w5 E (fX9_likeOf_l5 n) ih σ x1 x2 x3 x5 r hf
set_option maxHeartbeats 4000000 in
set_option maxRecDepth 100000 in
theorem fX9_likeOf_c (k : gK) (σ : St) (x1 : Int32) (x2 : Int32) (r : Int64 × St) (hf : fX9_likeOf σ x1 x2 = some r) : MC k yX9_likeOf wsX9_likeOf rm_fX9_likeOf [.ref (k.2.2.2.1 0), .int x1, .int x2] (mw k.2.2.2 σ) (some (.long r.1)) (mw k.2.2.2 r.2) := by
  refine MC_of (cc := cX9_likeOf) (maxL := 10) (ret := (some .long)) (own := RX9) (lvs := [(0, .ref (k.2.2.2.1 0)), (1, .int x1), (2, .int x2)]) (by decide) rfl rfl (Nat.le_of_ble_eq_true rfl) rfl (fun X E => ?_)
  unfold fX9_likeOf at hf
  refine g_lconst (v := (1 : Int64)) E dX9_likeOf_0 (by decide) ?_
  refine g_lstore_n E [(3, .long (1 : Int64)), (0, .ref (k.2.2.2.1 0)), (1, .int x1), (2, .int x2)] dX9_likeOf_1 rfl (by decide) rfl ?_
  refine g_iconst (v := (0 : Int32)) E dX9_likeOf_2 (by decide) ?_
  refine g_istore E [(5, .int (0 : Int32)), (3, .long (1 : Int64)), (0, .ref (k.2.2.2.1 0)), (1, .int x1), (2, .int x2)] dX9_likeOf_3 (by decide) rfl ?_
  exact g_sub [2, 3, 4, 1, 0] rfl (fX9_likeOf_v5 E gF σ x1 x2 (1 : Int64) (0 : Int32) r hf)
def rm_fX9_worth : Room := { frames := 3, cells := 0, slots := 0, locals := 75 }
set_option maxHeartbeats 4000000 in
set_option maxRecDepth 100000 in
theorem fX9_worth_w41 {k : gK} {X : gX} (E : gE k X cX9_worth RX9 wsX9_worth 7 (some .long) rm_fX9_worth) (rc41 : St → Int32 → Int32 → Int32 → Int64 → Int32 → Option (Int64 × St)) (hrc41 : ∀ (σ : St) (x1 : Int32) (x2 : Int32) (x3 : Int32) (x4 : Int64) (x6 : Int32) (r : Int64 × St), rc41 σ x1 x2 x3 x4 x6 = some r → G k X 7 (some (.long r.1)) (mw k.2.2.2 r.2) (mw k.2.2.2 σ) [(0, .ref (k.2.2.2.1 0)), (1, .int x1), (2, .int x2), (3, .int x3), (4, .long x4), (6, .int x6)] [] 41) (σ : St) (x1 : Int32) (x2 : Int32) (x3 : Int32) (x4 : Int64) (x6 : Int32) (r : Int64 × St) (hf : fX9_worth_b41 rc41 σ x1 x2 x3 x4 x6 = some r) : G k X 7 (some (.long r.1)) (mw k.2.2.2 r.2) (mw k.2.2.2 σ) [(0, .ref (k.2.2.2.1 0)), (1, .int x1), (2, .int x2), (3, .int x3), (4, .long x4), (6, .int x6)] [] 41 := by
  unfold fX9_worth_b41 at hf
  refine g_iload E 5 dX9_worth_41 rfl ?_
  refine g_bipush (v := (6 : Int32)) E dX9_worth_43 (by decide) ?_
  refine g_icmp_ge (tgt := 66) E dX9_worth_45 (by decide) (fun c1 => ?_) (fun c1 => ?_)
  · have hf := gp hf c1
    refine g_lload E 4 dX9_worth_66 rfl ?_
    refine g_lconst (v := (0 : Int64)) E dX9_worth_68 (by decide) ?_
    refine g_lcmp E dX9_worth_69 ?_
    refine g_if_ne (tgt := 78) E dX9_worth_70 (by decide) (fun c2 => ?_) (fun c2 => ?_)
    · have hf := gn hf c2
      refine g_aload_n E 0 dX9_worth_78 rfl rfl ?_
      refine g_iload_n E 1 dX9_worth_79 rfl rfl ?_
      refine g_iload_n E 2 dX9_worth_80 rfl rfl ?_
      obtain ⟨q3, hq4, hf⟩ := gb hf
      refine g_callV (C := RX9) (T := TX9) (N := 20) (ci := 9) (As := [.int x1, .int x2]) (rest := []) (n := 2) E 0 (fX9_likeOf_c k σ x1 x2 q3 hq4) gX9_worth_X9_likeOf rfl rfl rfl (by decide +kernel) ⟨Nat.le_of_ble_eq_true rfl, Nat.le_of_ble_eq_true rfl⟩ rfl rfl (Nat.le_of_ble_eq_true rfl) rfl (mwG0 _ _) dX9_worth_81 ?_
      refine g_lload E 4 dX9_worth_84 rfl ?_
      refine g_iload_n E 3 dX9_worth_86 rfl rfl ?_
      obtain ⟨q5, hq6, hf⟩ := gb hf
      refine g_callS (As := [.long q3.1, .long x4, .int x3]) (rest := []) (n := 3) E (fX9_lowest_c k q3.2 q3.1 x4 x3 q5 hq6) gX9_worth_X9_lowest rfl rfl rfl (by decide +kernel) ⟨Nat.le_of_ble_eq_true rfl, Nat.le_of_ble_eq_true rfl⟩ rfl rfl (Nat.le_of_ble_eq_true rfl) dX9_worth_87 ?_
      cases hf
      exact g_lret E dX9_worth_90
    · have hf := gp hf c2
      refine g_iload_n E 3 dX9_worth_73 rfl rfl ?_
      refine g_i2l E dX9_worth_74 ?_
      refine g_goto (tgt := 90) E dX9_worth_75 (by decide) ?_
      cases hf
      exact g_lret E dX9_worth_90
  · have hf := gn hf c1
    refine g_lload E 4 dX9_worth_48 rfl ?_
    refine g_aload_n E 0 dX9_worth_50 rfl rfl ?_
    refine g_iload_n E 1 dX9_worth_51 rfl rfl ?_
    refine g_iload E 5 dX9_worth_52 rfl ?_
    obtain ⟨q7, hq8, hf⟩ := gb hf
    refine g_callV (C := RX9) (T := TX9) (N := 20) (ci := 9) (As := [.int x1, .int x6]) (rest := [.long x4]) (n := 2) E 0 (fX9_likeOf_c k σ x1 x6 q7 hq8) gX9_worth_X9_likeOf rfl rfl rfl (by decide +kernel) ⟨Nat.le_of_ble_eq_true rfl, Nat.le_of_ble_eq_true rfl⟩ rfl rfl (Nat.le_of_ble_eq_true rfl) rfl (mwG0 _ _) dX9_worth_54 ?_
    refine g_ladd E dX9_worth_57 ?_
    refine g_lstore E [(4, .long (x4 + q7.1)), (0, .ref (k.2.2.2.1 0)), (1, .int x1), (2, .int x2), (3, .int x3), (6, .int x6)] dX9_worth_58 (by decide) rfl ?_
    refine g_iinc E 5 [(6, .int (x6 + (1 : Int32))), (4, .long (x4 + q7.1)), (0, .ref (k.2.2.2.1 0)), (1, .int x1), (2, .int x2), (3, .int x3)] (x6 + (1 : Int32)) dX9_worth_60 rfl (by rfl) (by decide) rfl ?_
    refine g_goto (tgt := 41) E dX9_worth_63 (by decide) ?_
    exact g_sub [2, 3, 4, 5, 1, 0] rfl (hrc41 q7.2 x1 x2 x3 (x4 + q7.1) (x6 + (1 : Int32)) r hf)
theorem fX9_worth_v41 {k : gK} {X : gX} (E : gE k X cX9_worth RX9 wsX9_worth 7 (some .long) rm_fX9_worth) : ∀ (n : Nat) (σ : St) (x1 : Int32) (x2 : Int32) (x3 : Int32) (x4 : Int64) (x6 : Int32) (r : Int64 × St), fX9_worth_l41 n σ x1 x2 x3 x4 x6 = some r → G k X 7 (some (.long r.1)) (mw k.2.2.2 r.2) (mw k.2.2.2 σ) [(0, .ref (k.2.2.2.1 0)), (1, .int x1), (2, .int x2), (3, .int x3), (4, .long x4), (6, .int x6)] [] 41 := by
  intro n
  induction n with
  | zero => intro σ x1 x2 x3 x4 x6 r hf; cases hf
  | succ n ih => intro σ x1 x2 x3 x4 x6 r hf; exact fX9_worth_w41 E (fX9_worth_l41 n) ih σ x1 x2 x3 x4 x6 r hf
set_option maxHeartbeats 4000000 in
set_option maxRecDepth 100000 in
theorem fX9_worth_c (k : gK) (σ : St) (x1 : Int32) (x2 : Int32) (x3 : Int32) (r : Int64 × St) (hf : fX9_worth σ x1 x2 x3 = some r) : MC k yX9_worth wsX9_worth rm_fX9_worth [.ref (k.2.2.2.1 0), .int x1, .int x2, .int x3] (mw k.2.2.2 σ) (some (.long r.1)) (mw k.2.2.2 r.2) := by
  refine MC_of (cc := cX9_worth) (maxL := 7) (ret := (some .long)) (own := RX9) (lvs := [(0, .ref (k.2.2.2.1 0)), (1, .int x1), (2, .int x2), (3, .int x3)]) (by decide) rfl rfl (Nat.le_of_ble_eq_true rfl) rfl (fun X E => ?_)
  unfold fX9_worth at hf
  refine g_aload_n E 0 dX9_worth_0 rfl rfl ?_
  refine g_iload_n E 1 dX9_worth_1 rfl rfl ?_
  obtain ⟨q1, hq2, hf⟩ := gb hf
  refine g_callV (C := RX9) (T := TX9) (N := 20) (ci := 9) (As := [.int x1]) (rest := []) (n := 1) E 0 (fX9_isPaper_c k σ x1 q1 hq2) gX9_worth_X9_isPaper rfl rfl rfl (by decide +kernel) ⟨Nat.le_of_ble_eq_true rfl, Nat.le_of_ble_eq_true rfl⟩ rfl rfl (Nat.le_of_ble_eq_true rfl) rfl (mwG0 _ _) dX9_worth_2 ?_
  refine g_if_ne (tgt := 12) E dX9_worth_5 (by decide) (fun c3 => ?_) (fun c3 => ?_)
  · have hf := gn hf c3
    refine g_iload_n E 2 dX9_worth_12 rfl rfl ?_
    refine g_i2l E dX9_worth_13 ?_
    refine g_lconst (v := (0 : Int64)) E dX9_worth_14 (by decide) ?_
    refine g_ldc2 (v := (5 : Int64)) E (by decide +kernel) dX9_worth_15 ?_
    obtain ⟨q4, hq5, hf⟩ := gb hf
    refine g_callS (As := [.long x2.toInt64, .long (0 : Int64), .long (5 : Int64)]) (rest := []) (n := 3) E (fX9_in_c k q1.2 x2.toInt64 (0 : Int64) (5 : Int64) q4 hq5) gX9_worth_X9_in rfl rfl rfl (by decide +kernel) ⟨Nat.le_of_ble_eq_true rfl, Nat.le_of_ble_eq_true rfl⟩ rfl rfl (Nat.le_of_ble_eq_true rfl) dX9_worth_18 ?_
    refine g_if_eq (tgt := 31) E dX9_worth_21 (by decide) (fun c6 => ?_) (fun c6 => ?_)
    · have hf := gp hf c6
      refine g_ldc2 (v := (-1000000000000000002 : Int64)) E (by decide +kernel) dX9_worth_31 ?_
      cases hf
      exact g_lret E dX9_worth_34
    · have hf := gn hf c6
      refine g_iload_n E 3 dX9_worth_24 rfl rfl ?_
      obtain ⟨q7, hq8, hf⟩ := gb hf
      refine g_callS (As := [.int x3]) (rest := []) (n := 1) E (fX9_isPart_c k q4.2 x3 q7 hq8) gX9_worth_X9_isPart rfl rfl rfl (by decide +kernel) ⟨Nat.le_of_ble_eq_true rfl, Nat.le_of_ble_eq_true rfl⟩ rfl rfl (Nat.le_of_ble_eq_true rfl) dX9_worth_25 ?_
      refine g_if_ne (tgt := 35) E dX9_worth_28 (by decide) (fun c9 => ?_) (fun c9 => ?_)
      · have hf := gn hf c9
        refine g_lconst (v := (0 : Int64)) E dX9_worth_35 (by decide) ?_
        refine g_lstore E [(4, .long (0 : Int64)), (0, .ref (k.2.2.2.1 0)), (1, .int x1), (2, .int x2), (3, .int x3)] dX9_worth_36 (by decide) rfl ?_
        refine g_iconst (v := (0 : Int32)) E dX9_worth_38 (by decide) ?_
        refine g_istore E [(6, .int (0 : Int32)), (4, .long (0 : Int64)), (0, .ref (k.2.2.2.1 0)), (1, .int x1), (2, .int x2), (3, .int x3)] dX9_worth_39 (by decide) rfl ?_
        exact g_sub [2, 3, 4, 5, 1, 0] rfl (fX9_worth_v41 E gF q7.2 x1 x2 x3 (0 : Int64) (0 : Int32) r hf)
      · have hf := gp hf c9
        refine g_ldc2 (v := (-1000000000000000002 : Int64)) E (by decide +kernel) dX9_worth_31 ?_
        cases hf
        exact g_lret E dX9_worth_34
  · have hf := gp hf c3
    refine g_ldc2 (v := (-1000000000000000001 : Int64)) E (by decide +kernel) dX9_worth_8 ?_
    cases hf
    exact g_lret E dX9_worth_11
