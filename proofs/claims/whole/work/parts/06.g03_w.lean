def rm_fJ6_bitCount_0f7a4 : Room := { frames := 0, cells := 0, slots := 0, locals := 0 }
set_option maxHeartbeats 4000000 in
set_option maxRecDepth 100000 in
theorem fJ6_bitCount_0f7a4_c (k : gK) (σ : St) (x0 : Int32) (r : Int32 × St) (hf : fJ6_bitCount_0f7a4 σ x0 = some r) : MC k yJ6_bitCount_0f7a4 wsJ6_bitCount_0f7a4 rm_fJ6_bitCount_0f7a4 [.int x0] (cw k.2.2.2 σ) (some (.int r.1)) (cw k.2.2.2 r.2) := by
  refine MC_of (cc := cJ6_bitCount_0f7a4) (maxL := 1) (ret := (some .int)) (own := RJ6) (lvs := [(0, .int x0)]) (by decide) rfl rfl (Nat.le_of_ble_eq_true rfl) rfl (fun X E => ?_)
  unfold fJ6_bitCount_0f7a4 at hf
  refine g_iload_n E 0 dJ6_bitCount_0f7a4_0 rfl rfl ?_
  refine g_iload_n E 0 dJ6_bitCount_0f7a4_1 rfl rfl ?_
  refine g_iconst (v := (1 : Int32)) E dJ6_bitCount_0f7a4_2 (by decide) ?_
  refine g_iushr E dJ6_bitCount_0f7a4_3 ?_
  refine g_ldcw (v := (1431655765 : Int32)) E (by decide +kernel) dJ6_bitCount_0f7a4_4 ?_
  refine g_iand E dJ6_bitCount_0f7a4_7 ?_
  refine g_isub E dJ6_bitCount_0f7a4_8 ?_
  refine g_istore_n E [(0, .int (x0 - (((((x0.toUInt32 >>> ((1 : Int32).toUInt32 &&& Int32.toUInt32 31)).toInt32)) &&& (1431655765 : Int32)))))] dJ6_bitCount_0f7a4_9 rfl (by decide) rfl ?_
  refine g_iload_n E 0 dJ6_bitCount_0f7a4_10 rfl rfl ?_
  refine g_ldcw (v := (858993459 : Int32)) E (by decide +kernel) dJ6_bitCount_0f7a4_11 ?_
  refine g_iand E dJ6_bitCount_0f7a4_14 ?_
  refine g_iload_n E 0 dJ6_bitCount_0f7a4_15 rfl rfl ?_
  refine g_iconst (v := (2 : Int32)) E dJ6_bitCount_0f7a4_16 (by decide) ?_
  refine g_iushr E dJ6_bitCount_0f7a4_17 ?_
  refine g_ldcw (v := (858993459 : Int32)) E (by decide +kernel) dJ6_bitCount_0f7a4_18 ?_
  refine g_iand E dJ6_bitCount_0f7a4_21 ?_
  refine g_iadd E dJ6_bitCount_0f7a4_22 ?_
  refine g_istore_n E [(0, .int (((((x0 - (((((x0.toUInt32 >>> ((1 : Int32).toUInt32 &&& Int32.toUInt32 31)).toInt32)) &&& (1431655765 : Int32))))) &&& (858993459 : Int32))) + (((((((x0 - (((((x0.toUInt32 >>> ((1 : Int32).toUInt32 &&& Int32.toUInt32 31)).toInt32)) &&& (1431655765 : Int32))))).toUInt32 >>> ((2 : Int32).toUInt32 &&& Int32.toUInt32 31)).toInt32)) &&& (858993459 : Int32)))))] dJ6_bitCount_0f7a4_23 rfl (by decide) rfl ?_
  refine g_iload_n E 0 dJ6_bitCount_0f7a4_24 rfl rfl ?_
  refine g_iload_n E 0 dJ6_bitCount_0f7a4_25 rfl rfl ?_
  refine g_iconst (v := (4 : Int32)) E dJ6_bitCount_0f7a4_26 (by decide) ?_
  refine g_iushr E dJ6_bitCount_0f7a4_27 ?_
  refine g_iadd E dJ6_bitCount_0f7a4_28 ?_
  refine g_ldcw (v := (252645135 : Int32)) E (by decide +kernel) dJ6_bitCount_0f7a4_29 ?_
  refine g_iand E dJ6_bitCount_0f7a4_32 ?_
  refine g_istore_n E [(0, .int (((((((((x0 - (((((x0.toUInt32 >>> ((1 : Int32).toUInt32 &&& Int32.toUInt32 31)).toInt32)) &&& (1431655765 : Int32))))) &&& (858993459 : Int32))) + (((((((x0 - (((((x0.toUInt32 >>> ((1 : Int32).toUInt32 &&& Int32.toUInt32 31)).toInt32)) &&& (1431655765 : Int32))))).toUInt32 >>> ((2 : Int32).toUInt32 &&& Int32.toUInt32 31)).toInt32)) &&& (858993459 : Int32))))) + (((((((((x0 - (((((x0.toUInt32 >>> ((1 : Int32).toUInt32 &&& Int32.toUInt32 31)).toInt32)) &&& (1431655765 : Int32))))) &&& (858993459 : Int32))) + (((((((x0 - (((((x0.toUInt32 >>> ((1 : Int32).toUInt32 &&& Int32.toUInt32 31)).toInt32)) &&& (1431655765 : Int32))))).toUInt32 >>> ((2 : Int32).toUInt32 &&& Int32.toUInt32 31)).toInt32)) &&& (858993459 : Int32))))).toUInt32 >>> ((4 : Int32).toUInt32 &&& Int32.toUInt32 31)).toInt32)))) &&& (252645135 : Int32)))] dJ6_bitCount_0f7a4_33 rfl (by decide) rfl ?_
  refine g_iload_n E 0 dJ6_bitCount_0f7a4_34 rfl rfl ?_
  refine g_iload_n E 0 dJ6_bitCount_0f7a4_35 rfl rfl ?_
  refine g_bipush (v := (8 : Int32)) E dJ6_bitCount_0f7a4_36 (by decide) ?_
  refine g_iushr E dJ6_bitCount_0f7a4_38 ?_
  refine g_iadd E dJ6_bitCount_0f7a4_39 ?_
  refine g_istore_n E [(0, .int (((((((((((x0 - (((((x0.toUInt32 >>> ((1 : Int32).toUInt32 &&& Int32.toUInt32 31)).toInt32)) &&& (1431655765 : Int32))))) &&& (858993459 : Int32))) + (((((((x0 - (((((x0.toUInt32 >>> ((1 : Int32).toUInt32 &&& Int32.toUInt32 31)).toInt32)) &&& (1431655765 : Int32))))).toUInt32 >>> ((2 : Int32).toUInt32 &&& Int32.toUInt32 31)).toInt32)) &&& (858993459 : Int32))))) + (((((((((x0 - (((((x0.toUInt32 >>> ((1 : Int32).toUInt32 &&& Int32.toUInt32 31)).toInt32)) &&& (1431655765 : Int32))))) &&& (858993459 : Int32))) + (((((((x0 - (((((x0.toUInt32 >>> ((1 : Int32).toUInt32 &&& Int32.toUInt32 31)).toInt32)) &&& (1431655765 : Int32))))).toUInt32 >>> ((2 : Int32).toUInt32 &&& Int32.toUInt32 31)).toInt32)) &&& (858993459 : Int32))))).toUInt32 >>> ((4 : Int32).toUInt32 &&& Int32.toUInt32 31)).toInt32)))) &&& (252645135 : Int32))) + (((((((((((((x0 - (((((x0.toUInt32 >>> ((1 : Int32).toUInt32 &&& Int32.toUInt32 31)).toInt32)) &&& (1431655765 : Int32))))) &&& (858993459 : Int32))) + (((((((x0 - (((((x0.toUInt32 >>> ((1 : Int32).toUInt32 &&& Int32.toUInt32 31)).toInt32)) &&& (1431655765 : Int32))))).toUInt32 >>> ((2 : Int32).toUInt32 &&& Int32.toUInt32 31)).toInt32)) &&& (858993459 : Int32))))) + (((((((((x0 - (((((x0.toUInt32 >>> ((1 : Int32).toUInt32 &&& Int32.toUInt32 31)).toInt32)) &&& (1431655765 : Int32))))) &&& (858993459 : Int32))) + (((((((x0 - (((((x0.toUInt32 >>> ((1 : Int32).toUInt32 &&& Int32.toUInt32 31)).toInt32)) &&& (1431655765 : Int32))))).toUInt32 >>> ((2 : Int32).toUInt32 &&& Int32.toUInt32 31)).toInt32)) &&& (858993459 : Int32))))).toUInt32 >>> ((4 : Int32).toUInt32 &&& Int32.toUInt32 31)).toInt32)))) &&& (252645135 : Int32))).toUInt32 >>> ((8 : Int32).toUInt32 &&& Int32.toUInt32 31)).toInt32))))] dJ6_bitCount_0f7a4_40 rfl (by decide) rfl ?_
  refine g_iload_n E 0 dJ6_bitCount_0f7a4_41 rfl rfl ?_
  refine g_iload_n E 0 dJ6_bitCount_0f7a4_42 rfl rfl ?_
  refine g_bipush (v := (16 : Int32)) E dJ6_bitCount_0f7a4_43 (by decide) ?_
  refine g_iushr E dJ6_bitCount_0f7a4_45 ?_
  refine g_iadd E dJ6_bitCount_0f7a4_46 ?_
  refine g_istore_n E [(0, .int (((((((((((((x0 - (((((x0.toUInt32 >>> ((1 : Int32).toUInt32 &&& Int32.toUInt32 31)).toInt32)) &&& (1431655765 : Int32))))) &&& (858993459 : Int32))) + (((((((x0 - (((((x0.toUInt32 >>> ((1 : Int32).toUInt32 &&& Int32.toUInt32 31)).toInt32)) &&& (1431655765 : Int32))))).toUInt32 >>> ((2 : Int32).toUInt32 &&& Int32.toUInt32 31)).toInt32)) &&& (858993459 : Int32))))) + (((((((((x0 - (((((x0.toUInt32 >>> ((1 : Int32).toUInt32 &&& Int32.toUInt32 31)).toInt32)) &&& (1431655765 : Int32))))) &&& (858993459 : Int32))) + (((((((x0 - (((((x0.toUInt32 >>> ((1 : Int32).toUInt32 &&& Int32.toUInt32 31)).toInt32)) &&& (1431655765 : Int32))))).toUInt32 >>> ((2 : Int32).toUInt32 &&& Int32.toUInt32 31)).toInt32)) &&& (858993459 : Int32))))).toUInt32 >>> ((4 : Int32).toUInt32 &&& Int32.toUInt32 31)).toInt32)))) &&& (252645135 : Int32))) + (((((((((((((x0 - (((((x0.toUInt32 >>> ((1 : Int32).toUInt32 &&& Int32.toUInt32 31)).toInt32)) &&& (1431655765 : Int32))))) &&& (858993459 : Int32))) + (((((((x0 - (((((x0.toUInt32 >>> ((1 : Int32).toUInt32 &&& Int32.toUInt32 31)).toInt32)) &&& (1431655765 : Int32))))).toUInt32 >>> ((2 : Int32).toUInt32 &&& Int32.toUInt32 31)).toInt32)) &&& (858993459 : Int32))))) + (((((((((x0 - (((((x0.toUInt32 >>> ((1 : Int32).toUInt32 &&& Int32.toUInt32 31)).toInt32)) &&& (1431655765 : Int32))))) &&& (858993459 : Int32))) + (((((((x0 - (((((x0.toUInt32 >>> ((1 : Int32).toUInt32 &&& Int32.toUInt32 31)).toInt32)) &&& (1431655765 : Int32))))).toUInt32 >>> ((2 : Int32).toUInt32 &&& Int32.toUInt32 31)).toInt32)) &&& (858993459 : Int32))))).toUInt32 >>> ((4 : Int32).toUInt32 &&& Int32.toUInt32 31)).toInt32)))) &&& (252645135 : Int32))).toUInt32 >>> ((8 : Int32).toUInt32 &&& Int32.toUInt32 31)).toInt32)))) + (((((((((((((((x0 - (((((x0.toUInt32 >>> ((1 : Int32).toUInt32 &&& Int32.toUInt32 31)).toInt32)) &&& (1431655765 : Int32))))) &&& (858993459 : Int32))) + (((((((x0 - (((((x0.toUInt32 >>> ((1 : Int32).toUInt32 &&& Int32.toUInt32 31)).toInt32)) &&& (1431655765 : Int32))))).toUInt32 >>> ((2 : Int32).toUInt32 &&& Int32.toUInt32 31)).toInt32)) &&& (858993459 : Int32))))) + (((((((((x0 - (((((x0.toUInt32 >>> ((1 : Int32).toUInt32 &&& Int32.toUInt32 31)).toInt32)) &&& (1431655765 : Int32))))) &&& (858993459 : Int32))) + (((((((x0 - (((((x0.toUInt32 >>> ((1 : Int32).toUInt32 &&& Int32.toUInt32 31)).toInt32)) &&& (1431655765 : Int32))))).toUInt32 >>> ((2 : Int32).toUInt32 &&& Int32.toUInt32 31)).toInt32)) &&& (858993459 : Int32))))).toUInt32 >>> ((4 : Int32).toUInt32 &&& Int32.toUInt32 31)).toInt32)))) &&& (252645135 : Int32))) + (((((((((((((x0 - (((((x0.toUInt32 >>> ((1 : Int32).toUInt32 &&& Int32.toUInt32 31)).toInt32)) &&& (1431655765 : Int32))))) &&& (858993459 : Int32))) + (((((((x0 - (((((x0.toUInt32 >>> ((1 : Int32).toUInt32 &&& Int32.toUInt32 31)).toInt32)) &&& (1431655765 : Int32))))).toUInt32 >>> ((2 : Int32).toUInt32 &&& Int32.toUInt32 31)).toInt32)) &&& (858993459 : Int32))))) + (((((((((x0 - (((((x0.toUInt32 >>> ((1 : Int32).toUInt32 &&& Int32.toUInt32 31)).toInt32)) &&& (1431655765 : Int32))))) &&& (858993459 : Int32))) + (((((((x0 - (((((x0.toUInt32 >>> ((1 : Int32).toUInt32 &&& Int32.toUInt32 31)).toInt32)) &&& (1431655765 : Int32))))).toUInt32 >>> ((2 : Int32).toUInt32 &&& Int32.toUInt32 31)).toInt32)) &&& (858993459 : Int32))))).toUInt32 >>> ((4 : Int32).toUInt32 &&& Int32.toUInt32 31)).toInt32)))) &&& (252645135 : Int32))).toUInt32 >>> ((8 : Int32).toUInt32 &&& Int32.toUInt32 31)).toInt32)))).toUInt32 >>> ((16 : Int32).toUInt32 &&& Int32.toUInt32 31)).toInt32))))] dJ6_bitCount_0f7a4_47 rfl (by decide) rfl ?_
  refine g_iload_n E 0 dJ6_bitCount_0f7a4_48 rfl rfl ?_
  refine g_bipush (v := (63 : Int32)) E dJ6_bitCount_0f7a4_49 (by decide) ?_
  refine g_iand E dJ6_bitCount_0f7a4_51 ?_
  have hf := Option.some.inj hf
  subst hf
  exact g_iret E dJ6_bitCount_0f7a4_52
def rm_fX8_power : Room := { frames := 0, cells := 0, slots := 0, locals := 0 }
set_option maxHeartbeats 4000000 in
set_option maxRecDepth 100000 in
theorem fX8_power_w5 {k : gK} {X : gX} (E : gE k X cX8_power RX8 wsX8_power 6 (some .long) rm_fX8_power) (rc5 : St → Int64 → Int32 → Int64 → Int32 → Option (Int64 × St)) (hrc5 : ∀ (σ : St) (x0 : Int64) (x2 : Int32) (x3 : Int64) (x5 : Int32) (r : Int64 × St), rc5 σ x0 x2 x3 x5 = some r → G k X 6 (some (.long r.1)) (cw k.2.2.2 r.2) (cw k.2.2.2 σ) [(0, .long x0), (2, .int x2), (3, .long x3), (5, .int x5)] [] 5) (σ : St) (x0 : Int64) (x2 : Int32) (x3 : Int64) (x5 : Int32) (r : Int64 × St) (hf : fX8_power_b5 rc5 σ x0 x2 x3 x5 = some r) : G k X 6 (some (.long r.1)) (cw k.2.2.2 r.2) (cw k.2.2.2 σ) [(0, .long x0), (2, .int x2), (3, .long x3), (5, .int x5)] [] 5 := by
  unfold fX8_power_b5 at hf
  refine g_iload E 3 dX8_power_5 rfl ?_
  refine g_iload_n E 1 dX8_power_7 rfl rfl ?_
  refine g_icmp_ge (tgt := 21) E dX8_power_8 (by decide) (fun c1 => ?_) (fun c1 => ?_)
  · have hf := gp hf c1
    refine g_lload_n E 2 dX8_power_21 rfl rfl ?_
    have hf := Option.some.inj hf
    subst hf
    exact g_lret E dX8_power_22
  · have hf := gn hf c1
    refine g_lload_n E 2 dX8_power_11 rfl rfl ?_
    refine g_lload_n E 0 dX8_power_12 rfl rfl ?_
    refine g_lmul E dX8_power_13 ?_
    refine g_lstore_n E [(3, .long (x3 * x0)), (0, .long x0), (2, .int x2), (5, .int x5)] dX8_power_14 rfl (by decide) rfl ?_
    refine g_iinc E 3 [(5, .int (x5 + (1 : Int32))), (3, .long (x3 * x0)), (0, .long x0), (2, .int x2)] (x5 + (1 : Int32)) dX8_power_15 rfl (by rfl) (by decide) rfl ?_
    refine g_goto (tgt := 5) E dX8_power_18 (by decide) ?_
    exact g_sub [2, 3, 1, 0] rfl (hrc5 σ x0 x2 (x3 * x0) (x5 + (1 : Int32)) r hf)
theorem fX8_power_v5 {k : gK} {X : gX} (E : gE k X cX8_power RX8 wsX8_power 6 (some .long) rm_fX8_power) : ∀ (n : Nat) (σ : St) (x0 : Int64) (x2 : Int32) (x3 : Int64) (x5 : Int32) (r : Int64 × St), fX8_power_l5 n σ x0 x2 x3 x5 = some r → G k X 6 (some (.long r.1)) (cw k.2.2.2 r.2) (cw k.2.2.2 σ) [(0, .long x0), (2, .int x2), (3, .long x3), (5, .int x5)] [] 5 := by
  intro n
  induction n with
  | zero => intro σ x0 x2 x3 x5 r hf; cases hf
  | succ n ih => intro σ x0 x2 x3 x5 r hf; exact fX8_power_w5 E (fX8_power_l5 n) ih σ x0 x2 x3 x5 r hf
set_option maxHeartbeats 4000000 in
set_option maxRecDepth 100000 in
theorem fX8_power_c (k : gK) (σ : St) (x0 : Int64) (x2 : Int32) (r : Int64 × St) (hf : fX8_power σ x0 x2 = some r) : MC k yX8_power wsX8_power rm_fX8_power [.long x0, .int x2] (cw k.2.2.2 σ) (some (.long r.1)) (cw k.2.2.2 r.2) := by
  refine MC_of (cc := cX8_power) (maxL := 6) (ret := (some .long)) (own := RX8) (lvs := [(0, .long x0), (2, .int x2)]) (by decide) rfl rfl (Nat.le_of_ble_eq_true rfl) rfl (fun X E => ?_)
  unfold fX8_power at hf
  refine g_lconst (v := (1 : Int64)) E dX8_power_0 (by decide) ?_
  refine g_lstore_n E [(3, .long (1 : Int64)), (0, .long x0), (2, .int x2)] dX8_power_1 rfl (by decide) rfl ?_
  refine g_iconst (v := (0 : Int32)) E dX8_power_2 (by decide) ?_
  refine g_istore E [(5, .int (0 : Int32)), (3, .long (1 : Int64)), (0, .long x0), (2, .int x2)] dX8_power_3 (by decide) rfl ?_
  exact g_sub [2, 3, 1, 0] rfl (fX8_power_v5 E gF σ x0 x2 (1 : Int64) (0 : Int32) r hf)
theorem hi_X8_rounds_X8 : ∀ w ∈ wsX80, w ∈ wsX8_rounds := by decide +kernel
theorem hk_X8_rounds_19 : Cond.fieldLink RX8 19 "PaperMarks" "papers" "LPaperMarks$Papers;" ∈ wsX8_rounds := by decide +kernel
theorem hk_X8_rounds_49 : Cond.fieldLink RX8 49 "PaperMarks" "odds" "LPaperMarks$Odds;" ∈ wsX8_rounds := by decide +kernel
def rm_fX8_rounds : Room := { frames := 16, cells := 0, slots := 0, locals := 928 }
set_option maxHeartbeats 4000000 in
set_option maxRecDepth 100000 in
theorem fX8_rounds_w123 {k : gK} {X : gX} (E : gE k X cX8_rounds RX8 wsX8_rounds 13 (some .long) rm_fX8_rounds) (rc123 : St → Int32 → Int32 → Int32 → Int32 → Int64 → Int64 → Int32 → Option (Int64 × St)) (hrc123 : ∀ (σ : St) (x1 : Int32) (x2 : Int32) (x3 : Int32) (x5 : Int32) (x8 : Int64) (x10 : Int64) (x12 : Int32) (r : Int64 × St), rc123 σ x1 x2 x3 x5 x8 x10 x12 = some r → G k X 13 (some (.long r.1)) (cw k.2.2.2 r.2) (cw k.2.2.2 σ) [(0, .ref (k.2.2.2.1 0)), (1, .int x1), (2, .int x2), (3, .int x3), (5, .int x5), (8, .long x8), (10, .long x10), (12, .int x12)] [] 123) (σ : St) (x1 : Int32) (x2 : Int32) (x3 : Int32) (x5 : Int32) (x8 : Int64) (x10 : Int64) (x12 : Int32) (r : Int64 × St) (hf : fX8_rounds_b123 rc123 σ x1 x2 x3 x5 x8 x10 x12 = some r) : G k X 13 (some (.long r.1)) (cw k.2.2.2 r.2) (cw k.2.2.2 σ) [(0, .ref (k.2.2.2.1 0)), (1, .int x1), (2, .int x2), (3, .int x3), (5, .int x5), (8, .long x8), (10, .long x10), (12, .int x12)] [] 123 := by
  unfold fX8_rounds_b123 at hf
  refine g_iload E 7 dX8_rounds_123 rfl ?_
  refine g_iload_n E 3 dX8_rounds_125 rfl rfl ?_
  refine g_icmp_ge (tgt := 160) E dX8_rounds_126 (by decide) (fun c1 => ?_) (fun c1 => ?_)
  · have hf := gp hf c1
    refine g_aload_n E 0 dX8_rounds_160 rfl rfl ?_
    refine g_get (C := RX8) (T := TX8) (N := 7) (ci := 8) E 0 1 (.ref (k.2.2.2.1 2)) hi_X8_rounds_X8 (cwG0 _ _) rfl (by decide) hk_X8_rounds_19 rfl dX8_rounds_161 ?_
    refine g_iload_n E 1 dX8_rounds_164 rfl rfl ?_
    refine g_iload_n E 2 dX8_rounds_165 rfl rfl ?_
    obtain ⟨q2, hq3, hf⟩ := gb hf
    refine g_callV (C := RX4) (T := TX4) (N := 6) (ci := 4) (As := [.int x1, .int x2]) (rest := []) (n := 2) E 2 (fX4_withoutWriter_c k σ x1 x2 q2 hq3) gX8_rounds_X4_withoutWriter rfl rfl rfl (by decide +kernel) ⟨Nat.le_of_ble_eq_true rfl, Nat.le_of_ble_eq_true rfl⟩ rfl rfl (Nat.le_of_ble_eq_true rfl) rfl (cwG2 _ _) dX8_rounds_166 ?_
    obtain ⟨q4, hq5, hf⟩ := gb hf
    refine g_callS (As := [.int q2.1]) (rest := []) (n := 1) E (fJ6_bitCount_0f7a4_c k q2.2 q2.1 q4 hq5) gX8_rounds_J6_bitCount_0f7a4 rfl rfl rfl (by decide +kernel) ⟨Nat.le_of_ble_eq_true rfl, Nat.le_of_ble_eq_true rfl⟩ rfl rfl (Nat.le_of_ble_eq_true rfl) dX8_rounds_169 ?_
    refine g_istore E [(12, .int q4.1), (0, .ref (k.2.2.2.1 0)), (1, .int x1), (2, .int x2), (3, .int x3), (5, .int x5), (8, .long x8), (10, .long x10)] dX8_rounds_172 (by decide) rfl ?_
    refine g_iload E 0 dX8_rounds_174 rfl ?_
    refine g_i2l E dX8_rounds_176 ?_
    refine g_lload E 7 dX8_rounds_177 rfl ?_
    refine g_lmul E dX8_rounds_179 ?_
    refine g_ldc2 (v := (16384 : Int64)) E (by decide +kernel) dX8_rounds_180 ?_
    refine g_iload_n E 4 dX8_rounds_183 rfl rfl ?_
    refine g_iconst (v := (1 : Int32)) E dX8_rounds_184 (by decide) ?_
    refine g_isub E dX8_rounds_185 ?_
    obtain ⟨q6, hq7, hf⟩ := gb hf
    refine g_callS (As := [.long (16384 : Int64), .int (x3 - (1 : Int32))]) (rest := [.long (q4.1.toInt64 * x10)]) (n := 2) E (fX8_power_c k q4.2 (16384 : Int64) ((x3 - (1 : Int32))) q6 hq7) gX8_rounds_X8_power rfl rfl rfl (by decide +kernel) ⟨Nat.le_of_ble_eq_true rfl, Nat.le_of_ble_eq_true rfl⟩ rfl rfl (Nat.le_of_ble_eq_true rfl) dX8_rounds_186 ?_
    refine g_iload E 5 dX8_rounds_189 rfl ?_
    obtain ⟨q8, hq9, hf⟩ := gb hf
    refine g_callS (As := [.long (q4.1.toInt64 * x10), .long q6.1, .int x5]) (rest := []) (n := 3) E (fX8_tell_c k q6.2 (q4.1.toInt64 * x10) q6.1 x5 q8 hq9) gX8_rounds_X8_tell rfl rfl rfl (by decide +kernel) ⟨Nat.le_of_ble_eq_true rfl, Nat.le_of_ble_eq_true rfl⟩ rfl rfl (Nat.le_of_ble_eq_true rfl) dX8_rounds_191 ?_
    have hf := Option.some.inj hf
    subst hf
    exact g_lret E dX8_rounds_194
  · have hf := gn hf c1
    refine g_lload E 6 dX8_rounds_129 rfl ?_
    refine g_lload E 5 dX8_rounds_131 rfl ?_
    refine g_iload E 7 dX8_rounds_133 rfl ?_
    obtain ⟨q10, hq11, hf⟩ := gb hf
    refine g_callS (As := [.long x8, .int x12]) (rest := [.long x10]) (n := 2) E (fX8_power_c k σ x8 x12 q10 hq11) gX8_rounds_X8_power rfl rfl rfl (by decide +kernel) ⟨Nat.le_of_ble_eq_true rfl, Nat.le_of_ble_eq_true rfl⟩ rfl rfl (Nat.le_of_ble_eq_true rfl) dX8_rounds_135 ?_
    refine g_ldc2 (v := (16384 : Int64)) E (by decide +kernel) dX8_rounds_138 ?_
    refine g_iload_n E 3 dX8_rounds_141 rfl rfl ?_
    refine g_iconst (v := (1 : Int32)) E dX8_rounds_142 (by decide) ?_
    refine g_isub E dX8_rounds_143 ?_
    refine g_iload E 7 dX8_rounds_144 rfl ?_
    refine g_isub E dX8_rounds_146 ?_
    obtain ⟨q12, hq13, hf⟩ := gb hf
    refine g_callS (As := [.long (16384 : Int64), .int (((x3 - (1 : Int32))) - x12)]) (rest := [.long q10.1, .long x10]) (n := 2) E (fX8_power_c k q10.2 (16384 : Int64) ((((x3 - (1 : Int32))) - x12)) q12 hq13) gX8_rounds_X8_power rfl rfl rfl (by decide +kernel) ⟨Nat.le_of_ble_eq_true rfl, Nat.le_of_ble_eq_true rfl⟩ rfl rfl (Nat.le_of_ble_eq_true rfl) dX8_rounds_147 ?_
    refine g_lmul E dX8_rounds_150 ?_
    refine g_ladd E dX8_rounds_151 ?_
    refine g_lstore E [(10, .long (x10 + (q10.1 * q12.1))), (0, .ref (k.2.2.2.1 0)), (1, .int x1), (2, .int x2), (3, .int x3), (5, .int x5), (8, .long x8), (12, .int x12)] dX8_rounds_152 (by decide) rfl ?_
    refine g_iinc E 7 [(12, .int (x12 + (1 : Int32))), (10, .long (x10 + (q10.1 * q12.1))), (0, .ref (k.2.2.2.1 0)), (1, .int x1), (2, .int x2), (3, .int x3), (5, .int x5), (8, .long x8)] (x12 + (1 : Int32)) dX8_rounds_154 rfl (by rfl) (by decide) rfl ?_
    refine g_goto (tgt := 123) E dX8_rounds_157 (by decide) ?_
    exact g_sub [2, 3, 4, 5, 6, 7, 1, 0] rfl (hrc123 q12.2 x1 x2 x3 x5 x8 (x10 + (q10.1 * q12.1)) (x12 + (1 : Int32)) r hf)
theorem fX8_rounds_v123 {k : gK} {X : gX} (E : gE k X cX8_rounds RX8 wsX8_rounds 13 (some .long) rm_fX8_rounds) : ∀ (n : Nat) (σ : St) (x1 : Int32) (x2 : Int32) (x3 : Int32) (x5 : Int32) (x8 : Int64) (x10 : Int64) (x12 : Int32) (r : Int64 × St), fX8_rounds_l123 n σ x1 x2 x3 x5 x8 x10 x12 = some r → G k X 13 (some (.long r.1)) (cw k.2.2.2 r.2) (cw k.2.2.2 σ) [(0, .ref (k.2.2.2.1 0)), (1, .int x1), (2, .int x2), (3, .int x3), (5, .int x5), (8, .long x8), (10, .long x10), (12, .int x12)] [] 123 := by
  intro n
  induction n with
  | zero => intro σ x1 x2 x3 x5 x8 x10 x12 r hf; cases hf
  | succ n ih => intro σ x1 x2 x3 x5 x8 x10 x12 r hf; exact fX8_rounds_w123 E (fX8_rounds_l123 n) ih σ x1 x2 x3 x5 x8 x10 x12 r hf
set_option maxHeartbeats 4000000 in
set_option maxRecDepth 100000 in
theorem fX8_rounds_w40 {k : gK} {X : gX} (E : gE k X cX8_rounds RX8 wsX8_rounds 13 (some .long) rm_fX8_rounds) (σ : St) (x1 : Int32) (x2 : Int32) (x3 : Int32) (x4 : Int32) (x5 : Int32) (t0 : Int32) (r : Int64 × St) (hf : fX8_rounds_b40 σ x1 x2 x3 x4 x5 t0 = some r) : G k X 13 (some (.long r.1)) (cw k.2.2.2 r.2) (cw k.2.2.2 σ) [(0, .ref (k.2.2.2.1 0)), (1, .int x1), (2, .int x2), (3, .int x3), (4, .int x4), (5, .int x5)] [.int t0] 40 := by
  unfold fX8_rounds_b40 at hf
  refine g_istore E [(6, .int t0), (0, .ref (k.2.2.2.1 0)), (1, .int x1), (2, .int x2), (3, .int x3), (4, .int x4), (5, .int x5)] dX8_rounds_40 (by decide) rfl ?_
  refine g_aload_n E 1 dX8_rounds_42 rfl rfl ?_
  refine g_aload_n E 1 dX8_rounds_43 rfl rfl ?_
  refine g_get (C := RX8) (T := TX8) (N := 7) (ci := 8) E 0 1 (.ref (k.2.2.2.1 2)) hi_X8_rounds_X8 (cwG0 _ _) rfl (by decide) hk_X8_rounds_19 rfl dX8_rounds_44 ?_
  refine g_iload_n E 2 dX8_rounds_47 rfl rfl ?_
  obtain ⟨q1, hq2, hf⟩ := gb hf
  refine g_callV (C := RX4) (T := TX4) (N := 6) (ci := 4) (As := [.int x1]) (rest := [.ref (k.2.2.2.1 0)]) (n := 1) E 2 (fX4_has_c k σ x1 q1 hq2) gX8_rounds_X4_has rfl rfl rfl (by decide +kernel) ⟨Nat.le_of_ble_eq_true rfl, Nat.le_of_ble_eq_true rfl⟩ rfl rfl (Nat.le_of_ble_eq_true rfl) rfl (cwG2 _ _) dX8_rounds_48 ?_
  refine g_iload E 0 dX8_rounds_51 rfl ?_
  obtain ⟨q3, hq4, hf⟩ := gb hf
  refine g_callV (C := RX8) (T := TX8) (N := 7) (ci := 8) (As := [.int q1.1, .int t0]) (rest := []) (n := 2) E 0 (fX8_refusalOfOdds_c k q1.2 q1.1 t0 q3 hq4) gX8_rounds_X8_refusalOfOdds rfl rfl rfl (by decide +kernel) ⟨Nat.le_of_ble_eq_true rfl, Nat.le_of_ble_eq_true rfl⟩ rfl rfl (Nat.le_of_ble_eq_true rfl) rfl (cwG0 _ _) dX8_rounds_53 ?_
  refine g_istore E [(7, .int q3.1), (6, .int t0), (0, .ref (k.2.2.2.1 0)), (1, .int x1), (2, .int x2), (3, .int x3), (4, .int x4), (5, .int x5)] dX8_rounds_56 (by decide) rfl ?_
  refine g_iload E 0 dX8_rounds_58 rfl ?_
  refine g_if_eq (tgt := 71) E dX8_rounds_60 (by decide) (fun c5 => ?_) (fun c5 => ?_)
  · have hf := gp hf c5
    refine g_ldc2 (v := (16384 : Int64)) E (by decide +kernel) dX8_rounds_71 ?_
    refine g_aload_n E 2 dX8_rounds_74 rfl rfl ?_
    refine g_get (C := RX8) (T := TX8) (N := 7) (ci := 8) E 0 5 (.ref (k.2.2.2.1 6)) hi_X8_rounds_X8 (cwG0 _ _) rfl (by decide) hk_X8_rounds_49 rfl dX8_rounds_75 ?_
    refine g_iload_n E 3 dX8_rounds_78 rfl rfl ?_
    refine g_iload_n E 4 dX8_rounds_79 rfl rfl ?_
    obtain ⟨q6, hq7, hf⟩ := gb hf
    refine g_callV (C := RX3) (T := TX3) (N := 5) (ci := 3) (As := [.int x1, .int x2]) (rest := [.long (16384 : Int64)]) (n := 2) E 6 (fX3_waysTaken_c k q3.2 x1 x2 q6 hq7) gX8_rounds_X3_waysTaken rfl rfl rfl (by decide +kernel) ⟨Nat.le_of_ble_eq_true rfl, Nat.le_of_ble_eq_true rfl⟩ rfl rfl (Nat.le_of_ble_eq_true rfl) rfl (cwG6 _ _) dX8_rounds_80 ?_
    refine g_lsub E dX8_rounds_83 ?_
    refine g_lstore E [(8, .long ((16384 : Int64) - q6.1)), (7, .int q3.1), (6, .int t0), (0, .ref (k.2.2.2.1 0)), (1, .int x1), (2, .int x2), (3, .int x3), (4, .int x4), (5, .int x5)] dX8_rounds_84 (by decide) rfl ?_
    refine g_iload E 7 dX8_rounds_86 rfl ?_
    refine g_if_ne (tgt := 117) E dX8_rounds_88 (by decide) (fun c8 => ?_) (fun c8 => ?_)
    · have hf := gn hf c8
      refine g_lconst (v := (0 : Int64)) E dX8_rounds_117 (by decide) ?_
      refine g_lstore E [(10, .long (0 : Int64)), (8, .long ((16384 : Int64) - q6.1)), (7, .int q3.1), (6, .int t0), (0, .ref (k.2.2.2.1 0)), (1, .int x1), (2, .int x2), (3, .int x3), (4, .int x4), (5, .int x5)] dX8_rounds_118 (by decide) rfl ?_
      refine g_iconst (v := (0 : Int32)) E dX8_rounds_120 (by decide) ?_
      refine g_istore E [(12, .int (0 : Int32)), (10, .long (0 : Int64)), (8, .long ((16384 : Int64) - q6.1)), (7, .int q3.1), (6, .int t0), (0, .ref (k.2.2.2.1 0)), (1, .int x1), (2, .int x2), (3, .int x3), (4, .int x4), (5, .int x5)] dX8_rounds_121 (by decide) rfl ?_
      exact g_sub [5, 6, 7, 8, 10, 2, 1, 0] rfl (fX8_rounds_v123 E gF q6.2 x1 x2 x3 x5 ((16384 : Int64) - q6.1) (0 : Int64) (0 : Int32) r hf)
    · have hf := gp hf c8
      refine g_ldc2 (v := (16384 : Int64)) E (by decide +kernel) dX8_rounds_91 ?_
      refine g_iload_n E 6 dX8_rounds_94 rfl rfl ?_
      obtain ⟨q9, hq10, hf⟩ := gb hf
      refine g_callS (As := [.long (16384 : Int64), .int x3]) (rest := []) (n := 2) E (fX8_power_c k q6.2 (16384 : Int64) x3 q9 hq10) gX8_rounds_X8_power rfl rfl rfl (by decide +kernel) ⟨Nat.le_of_ble_eq_true rfl, Nat.le_of_ble_eq_true rfl⟩ rfl rfl (Nat.le_of_ble_eq_true rfl) dX8_rounds_95 ?_
      refine g_lstore E [(10, .long q9.1), (8, .long ((16384 : Int64) - q6.1)), (7, .int q3.1), (6, .int t0), (0, .ref (k.2.2.2.1 0)), (1, .int x1), (2, .int x2), (3, .int x3), (4, .int x4), (5, .int x5)] dX8_rounds_98 (by decide) rfl ?_
      refine g_lload E 0 dX8_rounds_100 rfl ?_
      refine g_lload E 1 dX8_rounds_102 rfl ?_
      refine g_iload_n E 7 dX8_rounds_104 rfl rfl ?_
      obtain ⟨q11, hq12, hf⟩ := gb hf
      refine g_callS (As := [.long ((16384 : Int64) - q6.1), .int x3]) (rest := [.long q9.1]) (n := 2) E (fX8_power_c k q9.2 (((16384 : Int64) - q6.1)) x3 q11 hq12) gX8_rounds_X8_power rfl rfl rfl (by decide +kernel) ⟨Nat.le_of_ble_eq_true rfl, Nat.le_of_ble_eq_true rfl⟩ rfl rfl (Nat.le_of_ble_eq_true rfl) dX8_rounds_105 ?_
      refine g_lsub E dX8_rounds_108 ?_
      refine g_lload E 0 dX8_rounds_109 rfl ?_
      refine g_iload E 9 dX8_rounds_111 rfl ?_
      obtain ⟨q13, hq14, hf⟩ := gb hf
      refine g_callS (As := [.long (q9.1 - q11.1), .long q9.1, .int x5]) (rest := []) (n := 3) E (fX8_tell_c k q11.2 (q9.1 - q11.1) q9.1 x5 q13 hq14) gX8_rounds_X8_tell rfl rfl rfl (by decide +kernel) ⟨Nat.le_of_ble_eq_true rfl, Nat.le_of_ble_eq_true rfl⟩ rfl rfl (Nat.le_of_ble_eq_true rfl) dX8_rounds_113 ?_
      have hf := Option.some.inj hf
      subst hf
      exact g_lret E dX8_rounds_116
  · have hf := gn hf c5
    refine g_ldc2 (v := (-1000000000000000000 : Int64)) E (by decide +kernel) dX8_rounds_63 ?_
    refine g_iload E 0 dX8_rounds_66 rfl ?_
    refine g_i2l E dX8_rounds_68 ?_
    refine g_ladd E dX8_rounds_69 ?_
    have hf := Option.some.inj hf
    subst hf
    exact g_lret E dX8_rounds_70
set_option maxHeartbeats 4000000 in
set_option maxRecDepth 100000 in
theorem fX8_rounds_w39 {k : gK} {X : gX} (E : gE k X cX8_rounds RX8 wsX8_rounds 13 (some .long) rm_fX8_rounds) (σ : St) (x1 : Int32) (x2 : Int32) (x3 : Int32) (x4 : Int32) (x5 : Int32) (r : Int64 × St) (hf : fX8_rounds_b39 σ x1 x2 x3 x4 x5 = some r) : G k X 13 (some (.long r.1)) (cw k.2.2.2 r.2) (cw k.2.2.2 σ) [(0, .ref (k.2.2.2.1 0)), (1, .int x1), (2, .int x2), (3, .int x3), (4, .int x4), (5, .int x5)] [] 39 := by
  unfold fX8_rounds_b39 at hf
  refine g_iconst (v := (0 : Int32)) E dX8_rounds_39 (by decide) ?_
  exact fX8_rounds_w40 E σ x1 x2 x3 x4 x5 (0 : Int32) r hf
set_option maxHeartbeats 4000000 in
set_option maxRecDepth 100000 in
theorem fX8_rounds_c (k : gK) (σ : St) (x1 : Int32) (x2 : Int32) (x3 : Int32) (x4 : Int32) (x5 : Int32) (r : Int64 × St) (hf : fX8_rounds σ x1 x2 x3 x4 x5 = some r) : MC k yX8_rounds wsX8_rounds rm_fX8_rounds [.ref (k.2.2.2.1 0), .int x1, .int x2, .int x3, .int x4, .int x5] (cw k.2.2.2 σ) (some (.long r.1)) (cw k.2.2.2 r.2) := by
  refine MC_of (cc := cX8_rounds) (maxL := 13) (ret := (some .long)) (own := RX8) (lvs := [(0, .ref (k.2.2.2.1 0)), (1, .int x1), (2, .int x2), (3, .int x3), (4, .int x4), (5, .int x5)]) (by decide) rfl rfl (Nat.le_of_ble_eq_true rfl) rfl (fun X E => ?_)
  unfold fX8_rounds at hf
  refine g_aload_n E 0 dX8_rounds_0 rfl rfl ?_
  refine g_iload_n E 2 dX8_rounds_1 rfl rfl ?_
  obtain ⟨q1, hq2, hf⟩ := gb hf
  refine g_callV (C := RX8) (T := TX8) (N := 7) (ci := 8) (As := [.int x2]) (rest := []) (n := 1) E 0 (fX8_areJudges_c k σ x2 q1 hq2) gX8_rounds_X8_areJudges rfl rfl rfl (by decide +kernel) ⟨Nat.le_of_ble_eq_true rfl, Nat.le_of_ble_eq_true rfl⟩ rfl rfl (Nat.le_of_ble_eq_true rfl) rfl (cwG0 _ _) dX8_rounds_2 ?_
  refine g_if_eq (tgt := 39) E dX8_rounds_5 (by decide) (fun c3 => ?_) (fun c3 => ?_)
  · have hf := gp hf c3
    exact fX8_rounds_w39 E q1.2 x1 x2 x3 x4 x5 r hf
  · have hf := gn hf c3
    refine g_iload_n E 3 dX8_rounds_8 rfl rfl ?_
    refine g_iconst (v := (1 : Int32)) E dX8_rounds_9 (by decide) ?_
    refine g_iconst (v := (4 : Int32)) E dX8_rounds_10 (by decide) ?_
    obtain ⟨q4, hq5, hf⟩ := gb hf
    refine g_callS (As := [.int x3, .int (1 : Int32), .int (4 : Int32)]) (rest := []) (n := 3) E (fX8_within_c k q1.2 x3 (1 : Int32) (4 : Int32) q4 hq5) gX8_rounds_X8_within rfl rfl rfl (by decide +kernel) ⟨Nat.le_of_ble_eq_true rfl, Nat.le_of_ble_eq_true rfl⟩ rfl rfl (Nat.le_of_ble_eq_true rfl) dX8_rounds_11 ?_
    refine g_if_eq (tgt := 39) E dX8_rounds_14 (by decide) (fun c6 => ?_) (fun c6 => ?_)
    · have hf := gp hf c6
      exact fX8_rounds_w39 E q4.2 x1 x2 x3 x4 x5 r hf
    · have hf := gn hf c6
      refine g_iload E 4 dX8_rounds_17 rfl ?_
      refine g_iconst (v := (0 : Int32)) E dX8_rounds_19 (by decide) ?_
      refine g_iconst (v := (1 : Int32)) E dX8_rounds_20 (by decide) ?_
      obtain ⟨q7, hq8, hf⟩ := gb hf
      refine g_callS (As := [.int x4, .int (0 : Int32), .int (1 : Int32)]) (rest := []) (n := 3) E (fX8_within_c k q4.2 x4 (0 : Int32) (1 : Int32) q7 hq8) gX8_rounds_X8_within rfl rfl rfl (by decide +kernel) ⟨Nat.le_of_ble_eq_true rfl, Nat.le_of_ble_eq_true rfl⟩ rfl rfl (Nat.le_of_ble_eq_true rfl) dX8_rounds_21 ?_
      refine g_if_eq (tgt := 39) E dX8_rounds_24 (by decide) (fun c9 => ?_) (fun c9 => ?_)
      · have hf := gp hf c9
        exact fX8_rounds_w39 E q7.2 x1 x2 x3 x4 x5 r hf
      · have hf := gn hf c9
        refine g_iload E 5 dX8_rounds_27 rfl ?_
        obtain ⟨q10, hq11, hf⟩ := gb hf
        refine g_callS (As := [.int x5]) (rest := []) (n := 1) E (fX8_isPart_c k q7.2 x5 q10 hq11) gX8_rounds_X8_isPart rfl rfl rfl (by decide +kernel) ⟨Nat.le_of_ble_eq_true rfl, Nat.le_of_ble_eq_true rfl⟩ rfl rfl (Nat.le_of_ble_eq_true rfl) dX8_rounds_29 ?_
        refine g_if_eq (tgt := 39) E dX8_rounds_32 (by decide) (fun c12 => ?_) (fun c12 => ?_)
        · have hf := gp hf c12
          exact fX8_rounds_w39 E q10.2 x1 x2 x3 x4 x5 r hf
        · have hf := gn hf c12
          refine g_iconst (v := (1 : Int32)) E dX8_rounds_35 (by decide) ?_
          refine g_goto (tgt := 40) E dX8_rounds_36 (by decide) ?_
          exact fX8_rounds_w40 E q10.2 x1 x2 x3 x4 x5 (1 : Int32) r hf
theorem hi_X3_waysOfMarks_X3 : ∀ w ∈ wsX30, w ∈ wsX3_waysOfMarks := by decide +kernel
theorem hi_X3_waysOfMarks_X0 : ∀ w ∈ wsX00, w ∈ wsX3_waysOfMarks := by decide +kernel
theorem hk_X3_waysOfMarks_22 : Cond.fieldLink RX3 22 "PaperMarks$Odds" "judges" "LPaperMarks$Judges;" ∈ wsX3_waysOfMarks := by decide +kernel
theorem hk_X3_waysOfMarks_51 : Cond.fieldLink RX3 51 "PaperMarks$Judges" "count" "I" ∈ wsX3_waysOfMarks := by decide +kernel
def rm_fX3_waysOfMarks_3 : Room := { frames := 3, cells := 0, slots := 0, locals := 87 }
set_option maxHeartbeats 4000000 in
set_option maxRecDepth 100000 in
theorem fX3_waysOfMarks_3_w49 {k : gK} {X : gX} (E : gE k X cX3_waysOfMarks RX3 wsX3_waysOfMarks 7 (some .long) rm_fX3_waysOfMarks_3) (rc6 : St → Int32 → Int32 → Int64 → Int32 → Option (Int64 × St)) (hrc6 : ∀ (σ : St) (x2 : Int32) (x3 : Int32) (x4 : Int64) (x6 : Int32) (r : Int64 × St), rc6 σ x2 x3 x4 x6 = some r → G k X 7 (some (.long r.1)) (cw k.2.2.2 r.2) (cw k.2.2.2 σ) [(0, .ref (k.2.2.2.1 6)), (1, .ref (k.2.2.2.1 3)), (2, .int x2), (3, .int x3), (4, .long x4), (6, .int x6)] [] 6) (σ : St) (x2 : Int32) (x3 : Int32) (x4 : Int64) (x6 : Int32) (r : Int64 × St) (hf : fX3_waysOfMarks_3_b49 rc6 σ x2 x3 x4 x6 = some r) : G k X 7 (some (.long r.1)) (cw k.2.2.2 r.2) (cw k.2.2.2 σ) [(0, .ref (k.2.2.2.1 6)), (1, .ref (k.2.2.2.1 3)), (2, .int x2), (3, .int x3), (4, .long x4), (6, .int x6)] [] 49 := by
  unfold fX3_waysOfMarks_3_b49 at hf
  refine g_iinc E 5 [(6, .int (x6 + (1 : Int32))), (0, .ref (k.2.2.2.1 6)), (1, .ref (k.2.2.2.1 3)), (2, .int x2), (3, .int x3), (4, .long x4)] (x6 + (1 : Int32)) dX3_waysOfMarks_49 rfl (by rfl) (by decide) rfl ?_
  refine g_goto (tgt := 6) E dX3_waysOfMarks_52 (by decide) ?_
  exact g_sub [1, 2, 3, 4, 5, 0] rfl (hrc6 σ x2 x3 x4 (x6 + (1 : Int32)) r hf)
set_option maxHeartbeats 4000000 in
set_option maxRecDepth 100000 in
theorem fX3_waysOfMarks_3_w6 {k : gK} {X : gX} (E : gE k X cX3_waysOfMarks RX3 wsX3_waysOfMarks 7 (some .long) rm_fX3_waysOfMarks_3) (rc6 : St → Int32 → Int32 → Int64 → Int32 → Option (Int64 × St)) (hrc6 : ∀ (σ : St) (x2 : Int32) (x3 : Int32) (x4 : Int64) (x6 : Int32) (r : Int64 × St), rc6 σ x2 x3 x4 x6 = some r → G k X 7 (some (.long r.1)) (cw k.2.2.2 r.2) (cw k.2.2.2 σ) [(0, .ref (k.2.2.2.1 6)), (1, .ref (k.2.2.2.1 3)), (2, .int x2), (3, .int x3), (4, .long x4), (6, .int x6)] [] 6) (σ : St) (x2 : Int32) (x3 : Int32) (x4 : Int64) (x6 : Int32) (r : Int64 × St) (hf : fX3_waysOfMarks_3_b6 rc6 σ x2 x3 x4 x6 = some r) : G k X 7 (some (.long r.1)) (cw k.2.2.2 r.2) (cw k.2.2.2 σ) [(0, .ref (k.2.2.2.1 6)), (1, .ref (k.2.2.2.1 3)), (2, .int x2), (3, .int x3), (4, .long x4), (6, .int x6)] [] 6 := by
  unfold fX3_waysOfMarks_3_b6 at hf
  refine g_iload E 5 dX3_waysOfMarks_6 rfl ?_
  refine g_aload_n E 0 dX3_waysOfMarks_8 rfl rfl ?_
  refine g_get (C := RX3) (T := TX3) (N := 5) (ci := 3) E 6 0 (.ref (k.2.2.2.1 1)) hi_X3_waysOfMarks_X3 (cwG6 _ _) rfl (by decide) hk_X3_waysOfMarks_22 rfl dX3_waysOfMarks_9 ?_
  refine g_get (C := RX0) (T := TX0) (N := 5) (ci := 0) E 1 4 (.int (σ.2.1 0)) hi_X3_waysOfMarks_X0 (cwG1 _ _) rfl (by decide) hk_X3_waysOfMarks_51 rfl dX3_waysOfMarks_12 ?_
  refine g_icmp_ge (tgt := 55) E dX3_waysOfMarks_15 (by decide) (fun c1 => ?_) (fun c1 => ?_)
  · have hf := gp hf c1
    refine g_lload E 4 dX3_waysOfMarks_55 rfl ?_
    have hf := Option.some.inj hf
    subst hf
    exact g_lret E dX3_waysOfMarks_57
  · have hf := gn hf c1
    refine g_aload_n E 1 dX3_waysOfMarks_18 rfl rfl ?_
    refine g_iload E 5 dX3_waysOfMarks_19 rfl ?_
    refine g_iload_n E 2 dX3_waysOfMarks_21 rfl rfl ?_
    obtain ⟨q2, hq3, hf⟩ := gb hf
    refine g_callV (C := RX1) (T := TX1) (N := 2) (ci := 1) (As := [.int x6, .int x2]) (rest := []) (n := 2) E 3 (fX1_has_c k σ x6 x2 q2 hq3) gX3_waysOfMarks_X1_has rfl rfl rfl (by decide +kernel) ⟨Nat.le_of_ble_eq_true rfl, Nat.le_of_ble_eq_true rfl⟩ rfl rfl (Nat.le_of_ble_eq_true rfl) rfl (cwG3 _ _) dX3_waysOfMarks_22 ?_
    refine g_if_eq (tgt := 49) E dX3_waysOfMarks_25 (by decide) (fun c4 => ?_) (fun c4 => ?_)
    · have hf := gp hf c4
      exact fX3_waysOfMarks_3_w49 E rc6 hrc6 q2.2 x2 x3 x4 x6 r hf
    · have hf := gn hf c4
      refine g_lload E 4 dX3_waysOfMarks_28 rfl ?_
      refine g_aload_n E 0 dX3_waysOfMarks_30 rfl rfl ?_
      refine g_iload E 5 dX3_waysOfMarks_31 rfl ?_
      refine g_iload_n E 2 dX3_waysOfMarks_33 rfl rfl ?_
      refine g_iload_n E 3 dX3_waysOfMarks_34 rfl rfl ?_
      refine g_aload_n E 1 dX3_waysOfMarks_35 rfl rfl ?_
      refine g_iload E 5 dX3_waysOfMarks_36 rfl ?_
      refine g_iload_n E 2 dX3_waysOfMarks_38 rfl rfl ?_
      obtain ⟨q5, hq6, hf⟩ := gb hf
      refine g_callV (C := RX1) (T := TX1) (N := 2) (ci := 1) (As := [.int x6, .int x2]) (rest := [.int x3, .int x2, .int x6, .ref (k.2.2.2.1 6), .long x4]) (n := 2) E 3 (fX1_of_c k q2.2 x6 x2 q5 hq6) gX3_waysOfMarks_X1_of rfl rfl rfl (by decide +kernel) ⟨Nat.le_of_ble_eq_true rfl, Nat.le_of_ble_eq_true rfl⟩ rfl rfl (Nat.le_of_ble_eq_true rfl) rfl (cwG3 _ _) dX3_waysOfMarks_39 ?_
      obtain ⟨q7, hq8, hf⟩ := gb hf
      refine g_callV (C := RX3) (T := TX3) (N := 5) (ci := 3) (As := [.int x6, .int x2, .int x3, .int q5.1]) (rest := [.long x4]) (n := 4) E 6 (fX3_waysOfMark_c k q5.2 x6 x2 x3 q5.1 q7 hq8) gX3_waysOfMarks_X3_waysOfMark rfl rfl rfl (by decide +kernel) ⟨Nat.le_of_ble_eq_true rfl, Nat.le_of_ble_eq_true rfl⟩ rfl rfl (Nat.le_of_ble_eq_true rfl) rfl (cwG6 _ _) dX3_waysOfMarks_42 ?_
      refine g_i2l E dX3_waysOfMarks_45 ?_
      refine g_lmul E dX3_waysOfMarks_46 ?_
      refine g_lstore E [(4, .long (x4 * q7.1.toInt64)), (0, .ref (k.2.2.2.1 6)), (1, .ref (k.2.2.2.1 3)), (2, .int x2), (3, .int x3), (6, .int x6)] dX3_waysOfMarks_47 (by decide) rfl ?_
      exact g_sub [1, 2, 3, 4, 0, 5] rfl (fX3_waysOfMarks_3_w49 E rc6 hrc6 q7.2 x2 x3 (x4 * q7.1.toInt64) x6 r hf)
theorem fX3_waysOfMarks_3_v6 {k : gK} {X : gX} (E : gE k X cX3_waysOfMarks RX3 wsX3_waysOfMarks 7 (some .long) rm_fX3_waysOfMarks_3) : ∀ (n : Nat) (σ : St) (x2 : Int32) (x3 : Int32) (x4 : Int64) (x6 : Int32) (r : Int64 × St), fX3_waysOfMarks_3_l6 n σ x2 x3 x4 x6 = some r → G k X 7 (some (.long r.1)) (cw k.2.2.2 r.2) (cw k.2.2.2 σ) [(0, .ref (k.2.2.2.1 6)), (1, .ref (k.2.2.2.1 3)), (2, .int x2), (3, .int x3), (4, .long x4), (6, .int x6)] [] 6 := by
  intro n
  induction n with
  | zero => intro σ x2 x3 x4 x6 r hf; cases hf
  | succ n ih => intro σ x2 x3 x4 x6 r hf; exact fX3_waysOfMarks_3_w6 E (fX3_waysOfMarks_3_l6 n) ih σ x2 x3 x4 x6 r hf
set_option maxHeartbeats 4000000 in
set_option maxRecDepth 100000 in
theorem fX3_waysOfMarks_3_c (k : gK) (σ : St) (x2 : Int32) (x3 : Int32) (r : Int64 × St) (hf : fX3_waysOfMarks_3 σ x2 x3 = some r) : MC k yX3_waysOfMarks wsX3_waysOfMarks rm_fX3_waysOfMarks_3 [.ref (k.2.2.2.1 6), .ref (k.2.2.2.1 3), .int x2, .int x3] (cw k.2.2.2 σ) (some (.long r.1)) (cw k.2.2.2 r.2) := by
  refine MC_of (cc := cX3_waysOfMarks) (maxL := 7) (ret := (some .long)) (own := RX3) (lvs := [(0, .ref (k.2.2.2.1 6)), (1, .ref (k.2.2.2.1 3)), (2, .int x2), (3, .int x3)]) (by decide) rfl rfl (Nat.le_of_ble_eq_true rfl) rfl (fun X E => ?_)
  unfold fX3_waysOfMarks_3 at hf
  refine g_lconst (v := (1 : Int64)) E dX3_waysOfMarks_0 (by decide) ?_
  refine g_lstore E [(4, .long (1 : Int64)), (0, .ref (k.2.2.2.1 6)), (1, .ref (k.2.2.2.1 3)), (2, .int x2), (3, .int x3)] dX3_waysOfMarks_1 (by decide) rfl ?_
  refine g_iconst (v := (0 : Int32)) E dX3_waysOfMarks_3 (by decide) ?_
  refine g_istore E [(6, .int (0 : Int32)), (4, .long (1 : Int64)), (0, .ref (k.2.2.2.1 6)), (1, .ref (k.2.2.2.1 3)), (2, .int x2), (3, .int x3)] dX3_waysOfMarks_4 (by decide) rfl ?_
  exact g_sub [2, 3, 4, 5, 1, 0] rfl (fX3_waysOfMarks_3_v6 E gF σ x2 x3 (1 : Int64) (0 : Int32) r hf)
theorem hi_X8_worth_X8 : ∀ w ∈ wsX80, w ∈ wsX8_worth := by decide +kernel
theorem hk_X8_worth_49 : Cond.fieldLink RX8 49 "PaperMarks" "odds" "LPaperMarks$Odds;" ∈ wsX8_worth := by decide +kernel
theorem hk_X8_worth_26 : Cond.fieldLink RX8 26 "PaperMarks" "marks" "LPaperMarks$Marks;" ∈ wsX8_worth := by decide +kernel
theorem hk_X8_worth_19 : Cond.fieldLink RX8 19 "PaperMarks" "papers" "LPaperMarks$Papers;" ∈ wsX8_worth := by decide +kernel
def rm_fX8_worth : Room := { frames := 4, cells := 0, slots := 0, locals := 113 }
set_option maxHeartbeats 4000000 in
set_option maxRecDepth 100000 in
theorem fX8_worth_w41 {k : gK} {X : gX} (E : gE k X cX8_worth RX8 wsX8_worth 7 (some .long) rm_fX8_worth) (rc41 : St → Int32 → Int32 → Int32 → Int64 → Int32 → Option (Int64 × St)) (hrc41 : ∀ (σ : St) (x1 : Int32) (x2 : Int32) (x3 : Int32) (x4 : Int64) (x6 : Int32) (r : Int64 × St), rc41 σ x1 x2 x3 x4 x6 = some r → G k X 7 (some (.long r.1)) (cw k.2.2.2 r.2) (cw k.2.2.2 σ) [(0, .ref (k.2.2.2.1 0)), (1, .int x1), (2, .int x2), (3, .int x3), (4, .long x4), (6, .int x6)] [] 41) (σ : St) (x1 : Int32) (x2 : Int32) (x3 : Int32) (x4 : Int64) (x6 : Int32) (r : Int64 × St) (hf : fX8_worth_b41 rc41 σ x1 x2 x3 x4 x6 = some r) : G k X 7 (some (.long r.1)) (cw k.2.2.2 r.2) (cw k.2.2.2 σ) [(0, .ref (k.2.2.2.1 0)), (1, .int x1), (2, .int x2), (3, .int x3), (4, .long x4), (6, .int x6)] [] 41 := by
  unfold fX8_worth_b41 at hf
  refine g_iload E 5 dX8_worth_41 rfl ?_
  refine g_iconst (v := (5 : Int32)) E dX8_worth_43 (by decide) ?_
  refine g_icmp_gt (tgt := 72) E dX8_worth_44 (by decide) (fun c1 => ?_) (fun c1 => ?_)
  · have hf := gp hf c1
    refine g_aload_n E 0 dX8_worth_72 rfl rfl ?_
    refine g_get (C := RX8) (T := TX8) (N := 7) (ci := 8) E 0 5 (.ref (k.2.2.2.1 6)) hi_X8_worth_X8 (cwG0 _ _) rfl (by decide) hk_X8_worth_49 rfl dX8_worth_73 ?_
    refine g_aload_n E 0 dX8_worth_76 rfl rfl ?_
    refine g_get (C := RX8) (T := TX8) (N := 7) (ci := 8) E 0 2 (.ref (k.2.2.2.1 3)) hi_X8_worth_X8 (cwG0 _ _) rfl (by decide) hk_X8_worth_26 rfl dX8_worth_77 ?_
    refine g_iload_n E 1 dX8_worth_80 rfl rfl ?_
    refine g_iload_n E 2 dX8_worth_81 rfl rfl ?_
    obtain ⟨q2, hq3, hf⟩ := gb hf
    refine g_callV (C := RX3) (T := TX3) (N := 5) (ci := 3) (As := [.ref (k.2.2.2.1 3), .int x1, .int x2]) (rest := []) (n := 3) E 6 (fX3_waysOfMarks_3_c k σ x1 x2 q2 hq3) gX8_worth_X3_waysOfMarks rfl rfl rfl (by decide +kernel) ⟨Nat.le_of_ble_eq_true rfl, Nat.le_of_ble_eq_true rfl⟩ rfl rfl (Nat.le_of_ble_eq_true rfl) rfl (cwG6 _ _) dX8_worth_82 ?_
    refine g_lload E 4 dX8_worth_85 rfl ?_
    refine g_iload_n E 3 dX8_worth_87 rfl rfl ?_
    obtain ⟨q4, hq5, hf⟩ := gb hf
    refine g_callS (As := [.long q2.1, .long x4, .int x3]) (rest := []) (n := 3) E (fX8_tell_c k q2.2 q2.1 x4 x3 q4 hq5) gX8_worth_X8_tell rfl rfl rfl (by decide +kernel) ⟨Nat.le_of_ble_eq_true rfl, Nat.le_of_ble_eq_true rfl⟩ rfl rfl (Nat.le_of_ble_eq_true rfl) dX8_worth_88 ?_
    have hf := Option.some.inj hf
    subst hf
    exact g_lret E dX8_worth_91
  · have hf := gn hf c1
    refine g_lload E 4 dX8_worth_47 rfl ?_
    refine g_aload_n E 0 dX8_worth_49 rfl rfl ?_
    refine g_get (C := RX8) (T := TX8) (N := 7) (ci := 8) E 0 5 (.ref (k.2.2.2.1 6)) hi_X8_worth_X8 (cwG0 _ _) rfl (by decide) hk_X8_worth_49 rfl dX8_worth_50 ?_
    refine g_aload_n E 0 dX8_worth_53 rfl rfl ?_
    refine g_get (C := RX8) (T := TX8) (N := 7) (ci := 8) E 0 2 (.ref (k.2.2.2.1 3)) hi_X8_worth_X8 (cwG0 _ _) rfl (by decide) hk_X8_worth_26 rfl dX8_worth_54 ?_
    refine g_iload_n E 1 dX8_worth_57 rfl rfl ?_
    refine g_iload E 5 dX8_worth_58 rfl ?_
    obtain ⟨q6, hq7, hf⟩ := gb hf
    refine g_callV (C := RX3) (T := TX3) (N := 5) (ci := 3) (As := [.ref (k.2.2.2.1 3), .int x1, .int x6]) (rest := [.long x4]) (n := 3) E 6 (fX3_waysOfMarks_3_c k σ x1 x6 q6 hq7) gX8_worth_X3_waysOfMarks rfl rfl rfl (by decide +kernel) ⟨Nat.le_of_ble_eq_true rfl, Nat.le_of_ble_eq_true rfl⟩ rfl rfl (Nat.le_of_ble_eq_true rfl) rfl (cwG6 _ _) dX8_worth_60 ?_
    refine g_ladd E dX8_worth_63 ?_
    refine g_lstore E [(4, .long (x4 + q6.1)), (0, .ref (k.2.2.2.1 0)), (1, .int x1), (2, .int x2), (3, .int x3), (6, .int x6)] dX8_worth_64 (by decide) rfl ?_
    refine g_iinc E 5 [(6, .int (x6 + (1 : Int32))), (4, .long (x4 + q6.1)), (0, .ref (k.2.2.2.1 0)), (1, .int x1), (2, .int x2), (3, .int x3)] (x6 + (1 : Int32)) dX8_worth_66 rfl (by rfl) (by decide) rfl ?_
    refine g_goto (tgt := 41) E dX8_worth_69 (by decide) ?_
    exact g_sub [2, 3, 4, 5, 1, 0] rfl (hrc41 q6.2 x1 x2 x3 (x4 + q6.1) (x6 + (1 : Int32)) r hf)
theorem fX8_worth_v41 {k : gK} {X : gX} (E : gE k X cX8_worth RX8 wsX8_worth 7 (some .long) rm_fX8_worth) : ∀ (n : Nat) (σ : St) (x1 : Int32) (x2 : Int32) (x3 : Int32) (x4 : Int64) (x6 : Int32) (r : Int64 × St), fX8_worth_l41 n σ x1 x2 x3 x4 x6 = some r → G k X 7 (some (.long r.1)) (cw k.2.2.2 r.2) (cw k.2.2.2 σ) [(0, .ref (k.2.2.2.1 0)), (1, .int x1), (2, .int x2), (3, .int x3), (4, .long x4), (6, .int x6)] [] 41 := by
  intro n
  induction n with
  | zero => intro σ x1 x2 x3 x4 x6 r hf; cases hf
  | succ n ih => intro σ x1 x2 x3 x4 x6 r hf; exact fX8_worth_w41 E (fX8_worth_l41 n) ih σ x1 x2 x3 x4 x6 r hf
set_option maxHeartbeats 4000000 in
set_option maxRecDepth 100000 in
theorem fX8_worth_c (k : gK) (σ : St) (x1 : Int32) (x2 : Int32) (x3 : Int32) (r : Int64 × St) (hf : fX8_worth σ x1 x2 x3 = some r) : MC k yX8_worth wsX8_worth rm_fX8_worth [.ref (k.2.2.2.1 0), .int x1, .int x2, .int x3] (cw k.2.2.2 σ) (some (.long r.1)) (cw k.2.2.2 r.2) := by
  refine MC_of (cc := cX8_worth) (maxL := 7) (ret := (some .long)) (own := RX8) (lvs := [(0, .ref (k.2.2.2.1 0)), (1, .int x1), (2, .int x2), (3, .int x3)]) (by decide) rfl rfl (Nat.le_of_ble_eq_true rfl) rfl (fun X E => ?_)
  unfold fX8_worth at hf
  refine g_aload_n E 0 dX8_worth_0 rfl rfl ?_
  refine g_get (C := RX8) (T := TX8) (N := 7) (ci := 8) E 0 1 (.ref (k.2.2.2.1 2)) hi_X8_worth_X8 (cwG0 _ _) rfl (by decide) hk_X8_worth_19 rfl dX8_worth_1 ?_
  refine g_iload_n E 1 dX8_worth_4 rfl rfl ?_
  obtain ⟨q1, hq2, hf⟩ := gb hf
  refine g_callV (C := RX4) (T := TX4) (N := 6) (ci := 4) (As := [.int x1]) (rest := []) (n := 1) E 2 (fX4_has_c k σ x1 q1 hq2) gX8_worth_X4_has rfl rfl rfl (by decide +kernel) ⟨Nat.le_of_ble_eq_true rfl, Nat.le_of_ble_eq_true rfl⟩ rfl rfl (Nat.le_of_ble_eq_true rfl) rfl (cwG2 _ _) dX8_worth_5 ?_
  refine g_if_ne (tgt := 15) E dX8_worth_8 (by decide) (fun c3 => ?_) (fun c3 => ?_)
  · have hf := gn hf c3
    refine g_iload_n E 2 dX8_worth_15 rfl rfl ?_
    refine g_iconst (v := (0 : Int32)) E dX8_worth_16 (by decide) ?_
    refine g_iconst (v := (5 : Int32)) E dX8_worth_17 (by decide) ?_
    obtain ⟨q4, hq5, hf⟩ := gb hf
    refine g_callS (As := [.int x2, .int (0 : Int32), .int (5 : Int32)]) (rest := []) (n := 3) E (fX8_within_c k q1.2 x2 (0 : Int32) (5 : Int32) q4 hq5) gX8_worth_X8_within rfl rfl rfl (by decide +kernel) ⟨Nat.le_of_ble_eq_true rfl, Nat.le_of_ble_eq_true rfl⟩ rfl rfl (Nat.le_of_ble_eq_true rfl) dX8_worth_18 ?_
    refine g_if_eq (tgt := 31) E dX8_worth_21 (by decide) (fun c6 => ?_) (fun c6 => ?_)
    · have hf := gp hf c6
      refine g_ldc2 (v := (-1000000000000000002 : Int64)) E (by decide +kernel) dX8_worth_31 ?_
      have hf := Option.some.inj hf
      subst hf
      exact g_lret E dX8_worth_34
    · have hf := gn hf c6
      refine g_iload_n E 3 dX8_worth_24 rfl rfl ?_
      obtain ⟨q7, hq8, hf⟩ := gb hf
      refine g_callS (As := [.int x3]) (rest := []) (n := 1) E (fX8_isPart_c k q4.2 x3 q7 hq8) gX8_worth_X8_isPart rfl rfl rfl (by decide +kernel) ⟨Nat.le_of_ble_eq_true rfl, Nat.le_of_ble_eq_true rfl⟩ rfl rfl (Nat.le_of_ble_eq_true rfl) dX8_worth_25 ?_
      refine g_if_ne (tgt := 35) E dX8_worth_28 (by decide) (fun c9 => ?_) (fun c9 => ?_)
      · have hf := gn hf c9
        refine g_lconst (v := (0 : Int64)) E dX8_worth_35 (by decide) ?_
        refine g_lstore E [(4, .long (0 : Int64)), (0, .ref (k.2.2.2.1 0)), (1, .int x1), (2, .int x2), (3, .int x3)] dX8_worth_36 (by decide) rfl ?_
        refine g_iconst (v := (0 : Int32)) E dX8_worth_38 (by decide) ?_
        refine g_istore E [(6, .int (0 : Int32)), (4, .long (0 : Int64)), (0, .ref (k.2.2.2.1 0)), (1, .int x1), (2, .int x2), (3, .int x3)] dX8_worth_39 (by decide) rfl ?_
        exact g_sub [2, 3, 4, 5, 1, 0] rfl (fX8_worth_v41 E gF q7.2 x1 x2 x3 (0 : Int64) (0 : Int32) r hf)
      · have hf := gp hf c9
        refine g_ldc2 (v := (-1000000000000000002 : Int64)) E (by decide +kernel) dX8_worth_31 ?_
        have hf := Option.some.inj hf
        subst hf
        exact g_lret E dX8_worth_34
  · have hf := gp hf c3
    refine g_ldc2 (v := (-1000000000000000001 : Int64)) E (by decide +kernel) dX8_worth_11 ?_
    have hf := Option.some.inj hf
    subst hf
    exact g_lret E dX8_worth_14
def rm_fX1_judgesOf : Room := { frames := 2, cells := 0, slots := 0, locals := 44 }
set_option maxHeartbeats 4000000 in
set_option maxRecDepth 100000 in
theorem fX1_judgesOf_w27 {k : gK} {X : gX} (E : gE k X cX1_judgesOf RX1 wsX1_judgesOf 4 (some .int) rm_fX1_judgesOf) (rc4 : St → Int32 → Int32 → Int32 → Option (Int32 × St)) (hrc4 : ∀ (σ : St) (x1 : Int32) (x2 : Int32) (x3 : Int32) (r : Int32 × St), rc4 σ x1 x2 x3 = some r → G k X 4 (some (.int r.1)) (cw k.2.2.2 r.2) (cw k.2.2.2 σ) [(0, .ref (k.2.2.2.1 3)), (1, .int x1), (2, .int x2), (3, .int x3)] [] 4) (σ : St) (x1 : Int32) (x3 : Int32) (t0 : Int32) (t1 : Int32) (r : Int32 × St) (hf : fX1_judgesOf_b27 rc4 σ x1 x3 t0 t1 = some r) : G k X 4 (some (.int r.1)) (cw k.2.2.2 r.2) (cw k.2.2.2 σ) [(0, .ref (k.2.2.2.1 3)), (1, .int x1), (3, .int x3)] [.int t1, .int t0] 27 := by
  unfold fX1_judgesOf_b27 at hf
  refine g_ior E dX1_judgesOf_27 ?_
  refine g_istore_n E [(2, .int (t0 ||| t1)), (0, .ref (k.2.2.2.1 3)), (1, .int x1), (3, .int x3)] dX1_judgesOf_28 rfl (by decide) rfl ?_
  refine g_iinc E 3 [(3, .int (x3 + (1 : Int32))), (2, .int (t0 ||| t1)), (0, .ref (k.2.2.2.1 3)), (1, .int x1)] (x3 + (1 : Int32)) dX1_judgesOf_29 rfl (by rfl) (by decide) rfl ?_
  refine g_goto (tgt := 4) E dX1_judgesOf_32 (by decide) ?_
  exact g_sub [2, 3, 1, 0] rfl (hrc4 σ x1 (t0 ||| t1) (x3 + (1 : Int32)) r hf)
set_option maxHeartbeats 4000000 in
set_option maxRecDepth 100000 in
theorem fX1_judgesOf_w4 {k : gK} {X : gX} (E : gE k X cX1_judgesOf RX1 wsX1_judgesOf 4 (some .int) rm_fX1_judgesOf) (rc4 : St → Int32 → Int32 → Int32 → Option (Int32 × St)) (hrc4 : ∀ (σ : St) (x1 : Int32) (x2 : Int32) (x3 : Int32) (r : Int32 × St), rc4 σ x1 x2 x3 = some r → G k X 4 (some (.int r.1)) (cw k.2.2.2 r.2) (cw k.2.2.2 σ) [(0, .ref (k.2.2.2.1 3)), (1, .int x1), (2, .int x2), (3, .int x3)] [] 4) (σ : St) (x1 : Int32) (x2 : Int32) (x3 : Int32) (r : Int32 × St) (hf : fX1_judgesOf_b4 rc4 σ x1 x2 x3 = some r) : G k X 4 (some (.int r.1)) (cw k.2.2.2 r.2) (cw k.2.2.2 σ) [(0, .ref (k.2.2.2.1 3)), (1, .int x1), (2, .int x2), (3, .int x3)] [] 4 := by
  unfold fX1_judgesOf_b4 at hf
  refine g_iload_n E 3 dX1_judgesOf_4 rfl rfl ?_
  refine g_bipush (v := (6 : Int32)) E dX1_judgesOf_5 (by decide) ?_
  refine g_icmp_ge (tgt := 35) E dX1_judgesOf_7 (by decide) (fun c1 => ?_) (fun c1 => ?_)
  · have hf := gp hf c1
    refine g_iload_n E 2 dX1_judgesOf_35 rfl rfl ?_
    have hf := Option.some.inj hf
    subst hf
    exact g_iret E dX1_judgesOf_36
  · have hf := gn hf c1
    refine g_iload_n E 2 dX1_judgesOf_10 rfl rfl ?_
    refine g_aload_n E 0 dX1_judgesOf_11 rfl rfl ?_
    refine g_iload_n E 3 dX1_judgesOf_12 rfl rfl ?_
    refine g_iload_n E 1 dX1_judgesOf_13 rfl rfl ?_
    obtain ⟨q2, hq3, hf⟩ := gb hf
    refine g_callV (C := RX1) (T := TX1) (N := 2) (ci := 1) (As := [.int x3, .int x1]) (rest := [.int x2]) (n := 2) E 3 (fX1_has_c k σ x3 x1 q2 hq3) gX1_judgesOf_X1_has rfl rfl rfl (by decide +kernel) ⟨Nat.le_of_ble_eq_true rfl, Nat.le_of_ble_eq_true rfl⟩ rfl rfl (Nat.le_of_ble_eq_true rfl) rfl (cwG3 _ _) dX1_judgesOf_14 ?_
    refine g_if_eq (tgt := 26) E dX1_judgesOf_17 (by decide) (fun c4 => ?_) (fun c4 => ?_)
    · have hf := gp hf c4
      refine g_iconst (v := (0 : Int32)) E dX1_judgesOf_26 (by decide) ?_
      exact g_sub [0, 1, 3] rfl (fX1_judgesOf_w27 E rc4 hrc4 q2.2 x1 x3 x2 (0 : Int32) r hf)
    · have hf := gn hf c4
      refine g_iconst (v := (1 : Int32)) E dX1_judgesOf_20 (by decide) ?_
      refine g_iload_n E 3 dX1_judgesOf_21 rfl rfl ?_
      refine g_ishl E dX1_judgesOf_22 ?_
      refine g_goto (tgt := 27) E dX1_judgesOf_23 (by decide) ?_
      exact g_sub [0, 1, 3] rfl (fX1_judgesOf_w27 E rc4 hrc4 q2.2 x1 x3 x2 ((1 : Int32) <<< (x3 &&& 31)) r hf)
theorem fX1_judgesOf_v4 {k : gK} {X : gX} (E : gE k X cX1_judgesOf RX1 wsX1_judgesOf 4 (some .int) rm_fX1_judgesOf) : ∀ (n : Nat) (σ : St) (x1 : Int32) (x2 : Int32) (x3 : Int32) (r : Int32 × St), fX1_judgesOf_l4 n σ x1 x2 x3 = some r → G k X 4 (some (.int r.1)) (cw k.2.2.2 r.2) (cw k.2.2.2 σ) [(0, .ref (k.2.2.2.1 3)), (1, .int x1), (2, .int x2), (3, .int x3)] [] 4 := by
  intro n
  induction n with
  | zero => intro σ x1 x2 x3 r hf; cases hf
  | succ n ih => intro σ x1 x2 x3 r hf; exact fX1_judgesOf_w4 E (fX1_judgesOf_l4 n) ih σ x1 x2 x3 r hf
set_option maxHeartbeats 4000000 in
set_option maxRecDepth 100000 in
theorem fX1_judgesOf_c (k : gK) (σ : St) (x1 : Int32) (r : Int32 × St) (hf : fX1_judgesOf σ x1 = some r) : MC k yX1_judgesOf wsX1_judgesOf rm_fX1_judgesOf [.ref (k.2.2.2.1 3), .int x1] (cw k.2.2.2 σ) (some (.int r.1)) (cw k.2.2.2 r.2) := by
  refine MC_of (cc := cX1_judgesOf) (maxL := 4) (ret := (some .int)) (own := RX1) (lvs := [(0, .ref (k.2.2.2.1 3)), (1, .int x1)]) (by decide) rfl rfl (Nat.le_of_ble_eq_true rfl) rfl (fun X E => ?_)
  unfold fX1_judgesOf at hf
  refine g_iconst (v := (0 : Int32)) E dX1_judgesOf_0 (by decide) ?_
  refine g_istore_n E [(2, .int (0 : Int32)), (0, .ref (k.2.2.2.1 3)), (1, .int x1)] dX1_judgesOf_1 rfl (by decide) rfl ?_
  refine g_iconst (v := (0 : Int32)) E dX1_judgesOf_2 (by decide) ?_
  refine g_istore_n E [(3, .int (0 : Int32)), (2, .int (0 : Int32)), (0, .ref (k.2.2.2.1 3)), (1, .int x1)] dX1_judgesOf_3 rfl (by decide) rfl ?_
  exact g_sub [2, 3, 1, 0] rfl (fX1_judgesOf_v4 E gF σ x1 (0 : Int32) (0 : Int32) r hf)
def rm_fX1_joinedWith : Room := { frames := 3, cells := 0, slots := 0, locals := 67 }
set_option maxHeartbeats 4000000 in
set_option maxRecDepth 100000 in
theorem fX1_joinedWith_w46 {k : gK} {X : gX} (E : gE k X cX1_joinedWith RX1 wsX1_joinedWith 7 (some .int) rm_fX1_joinedWith) (rc9 : St → Int32 → Int32 → Int32 → Option (Int32 × St)) (hrc9 : ∀ (σ : St) (x2 : Int32) (x3 : Int32) (x4 : Int32) (r : Int32 × St), rc9 σ x2 x3 x4 = some r → G k X 7 (some (.int r.1)) (cw k.2.2.2 r.2) (cw k.2.2.2 σ) [(0, .ref (k.2.2.2.1 3)), (2, .int x2), (3, .int x3), (4, .int x4)] [] 9) (rc19 : St → Int32 → Int32 → Int32 → Int32 → Option (Int32 × St)) (hrc19 : ∀ (σ : St) (x2 : Int32) (x3 : Int32) (x4 : Int32) (x5 : Int32) (r : Int32 × St), rc19 σ x2 x3 x4 x5 = some r → G k X 7 (some (.int r.1)) (cw k.2.2.2 r.2) (cw k.2.2.2 σ) [(0, .ref (k.2.2.2.1 3)), (2, .int x2), (3, .int x3), (4, .int x4), (5, .int x5)] [] 19) (σ : St) (x2 : Int32) (x3 : Int32) (x4 : Int32) (x5 : Int32) (r : Int32 × St) (hf : fX1_joinedWith_b46 rc9 rc19 σ x2 x3 x4 x5 = some r) : G k X 7 (some (.int r.1)) (cw k.2.2.2 r.2) (cw k.2.2.2 σ) [(0, .ref (k.2.2.2.1 3)), (2, .int x2), (3, .int x3), (4, .int x4), (5, .int x5)] [] 46 := by
  unfold fX1_joinedWith_b46 at hf
  refine g_iinc E 4 [(5, .int (x5 + (1 : Int32))), (0, .ref (k.2.2.2.1 3)), (2, .int x2), (3, .int x3), (4, .int x4)] (x5 + (1 : Int32)) dX1_joinedWith_46 rfl (by rfl) (by decide) rfl ?_
  refine g_goto (tgt := 19) E dX1_joinedWith_49 (by decide) ?_
  exact g_sub [1, 2, 3, 4, 0] rfl (hrc19 σ x2 x3 x4 (x5 + (1 : Int32)) r hf)
set_option maxHeartbeats 4000000 in
set_option maxRecDepth 100000 in
theorem fX1_joinedWith_w19 {k : gK} {X : gX} (E : gE k X cX1_joinedWith RX1 wsX1_joinedWith 7 (some .int) rm_fX1_joinedWith) (rc9 : St → Int32 → Int32 → Int32 → Option (Int32 × St)) (hrc9 : ∀ (σ : St) (x2 : Int32) (x3 : Int32) (x4 : Int32) (r : Int32 × St), rc9 σ x2 x3 x4 = some r → G k X 7 (some (.int r.1)) (cw k.2.2.2 r.2) (cw k.2.2.2 σ) [(0, .ref (k.2.2.2.1 3)), (2, .int x2), (3, .int x3), (4, .int x4)] [] 9) (rc19 : St → Int32 → Int32 → Int32 → Int32 → Option (Int32 × St)) (hrc19 : ∀ (σ : St) (x2 : Int32) (x3 : Int32) (x4 : Int32) (x5 : Int32) (r : Int32 × St), rc19 σ x2 x3 x4 x5 = some r → G k X 7 (some (.int r.1)) (cw k.2.2.2 r.2) (cw k.2.2.2 σ) [(0, .ref (k.2.2.2.1 3)), (2, .int x2), (3, .int x3), (4, .int x4), (5, .int x5)] [] 19) (σ : St) (x2 : Int32) (x3 : Int32) (x4 : Int32) (x5 : Int32) (r : Int32 × St) (hf : fX1_joinedWith_b19 rc9 rc19 σ x2 x3 x4 x5 = some r) : G k X 7 (some (.int r.1)) (cw k.2.2.2 r.2) (cw k.2.2.2 σ) [(0, .ref (k.2.2.2.1 3)), (2, .int x2), (3, .int x3), (4, .int x4), (5, .int x5)] [] 19 := by
  unfold fX1_joinedWith_b19 at hf
  refine g_iload E 4 dX1_joinedWith_19 rfl ?_
  refine g_bipush (v := (6 : Int32)) E dX1_joinedWith_21 (by decide) ?_
  refine g_icmp_ge (tgt := 52) E dX1_joinedWith_23 (by decide) (fun c1 => ?_) (fun c1 => ?_)
  · have hf := gp hf c1
    refine g_iload_n E 2 dX1_joinedWith_52 rfl rfl ?_
    refine g_iload_n E 1 dX1_joinedWith_53 rfl rfl ?_
    refine g_ior E dX1_joinedWith_54 ?_
    refine g_istore_n E [(3, .int (x3 ||| x2)), (0, .ref (k.2.2.2.1 3)), (2, .int x2), (4, .int x4), (5, .int x5)] dX1_joinedWith_55 rfl (by decide) rfl ?_
    refine g_iinc E 3 [(4, .int (x4 + (1 : Int32))), (3, .int (x3 ||| x2)), (0, .ref (k.2.2.2.1 3)), (2, .int x2), (5, .int x5)] (x4 + (1 : Int32)) dX1_joinedWith_56 rfl (by rfl) (by decide) rfl ?_
    refine g_goto (tgt := 9) E dX1_joinedWith_59 (by decide) ?_
    exact g_sub [2, 3, 1, 0] rfl (hrc9 σ x2 (x3 ||| x2) (x4 + (1 : Int32)) r hf)
  · have hf := gn hf c1
    refine g_aload_n E 0 dX1_joinedWith_26 rfl rfl ?_
    refine g_iload E 4 dX1_joinedWith_27 rfl ?_
    obtain ⟨q2, hq3, hf⟩ := gb hf
    refine g_callV (C := RX1) (T := TX1) (N := 2) (ci := 1) (As := [.int x5]) (rest := []) (n := 1) E 3 (fX1_judgesOf_c k σ x5 q2 hq3) gX1_joinedWith_X1_judgesOf rfl rfl rfl (by decide +kernel) ⟨Nat.le_of_ble_eq_true rfl, Nat.le_of_ble_eq_true rfl⟩ rfl rfl (Nat.le_of_ble_eq_true rfl) rfl (cwG3 _ _) dX1_joinedWith_29 ?_
    refine g_istore E [(6, .int q2.1), (0, .ref (k.2.2.2.1 3)), (2, .int x2), (3, .int x3), (4, .int x4), (5, .int x5)] dX1_joinedWith_32 (by decide) rfl ?_
    refine g_iload E 0 dX1_joinedWith_34 rfl ?_
    refine g_iload_n E 3 dX1_joinedWith_36 rfl rfl ?_
    refine g_iand E dX1_joinedWith_37 ?_
    refine g_if_eq (tgt := 46) E dX1_joinedWith_38 (by decide) (fun c4 => ?_) (fun c4 => ?_)
    · have hf := gp hf c4
      exact g_sub [1, 2, 3, 4, 5] rfl (fX1_joinedWith_w46 E rc9 hrc9 rc19 hrc19 q2.2 x2 x3 x4 x5 r hf)
    · have hf := gn hf c4
      refine g_iload_n E 2 dX1_joinedWith_41 rfl rfl ?_
      refine g_iload E 0 dX1_joinedWith_42 rfl ?_
      refine g_ior E dX1_joinedWith_44 ?_
      refine g_istore_n E [(2, .int (x2 ||| q2.1)), (6, .int q2.1), (0, .ref (k.2.2.2.1 3)), (3, .int x3), (4, .int x4), (5, .int x5)] dX1_joinedWith_45 rfl (by decide) rfl ?_
      exact g_sub [2, 0, 3, 4, 5] rfl (fX1_joinedWith_w46 E rc9 hrc9 rc19 hrc19 q2.2 (x2 ||| q2.1) x3 x4 x5 r hf)
theorem fX1_joinedWith_v19 {k : gK} {X : gX} (E : gE k X cX1_joinedWith RX1 wsX1_joinedWith 7 (some .int) rm_fX1_joinedWith) (rc9 : St → Int32 → Int32 → Int32 → Option (Int32 × St)) (hrc9 : ∀ (σ : St) (x2 : Int32) (x3 : Int32) (x4 : Int32) (r : Int32 × St), rc9 σ x2 x3 x4 = some r → G k X 7 (some (.int r.1)) (cw k.2.2.2 r.2) (cw k.2.2.2 σ) [(0, .ref (k.2.2.2.1 3)), (2, .int x2), (3, .int x3), (4, .int x4)] [] 9) : ∀ (n : Nat) (σ : St) (x2 : Int32) (x3 : Int32) (x4 : Int32) (x5 : Int32) (r : Int32 × St), fX1_joinedWith_l19 rc9 n σ x2 x3 x4 x5 = some r → G k X 7 (some (.int r.1)) (cw k.2.2.2 r.2) (cw k.2.2.2 σ) [(0, .ref (k.2.2.2.1 3)), (2, .int x2), (3, .int x3), (4, .int x4), (5, .int x5)] [] 19 := by
  intro n
  induction n with
  | zero => intro σ x2 x3 x4 x5 r hf; cases hf
  | succ n ih => intro σ x2 x3 x4 x5 r hf; exact fX1_joinedWith_w19 E rc9 hrc9 (fX1_joinedWith_l19 rc9 n) ih σ x2 x3 x4 x5 r hf
set_option maxHeartbeats 4000000 in
set_option maxRecDepth 100000 in
theorem fX1_joinedWith_w9 {k : gK} {X : gX} (E : gE k X cX1_joinedWith RX1 wsX1_joinedWith 7 (some .int) rm_fX1_joinedWith) (rc9 : St → Int32 → Int32 → Int32 → Option (Int32 × St)) (hrc9 : ∀ (σ : St) (x2 : Int32) (x3 : Int32) (x4 : Int32) (r : Int32 × St), rc9 σ x2 x3 x4 = some r → G k X 7 (some (.int r.1)) (cw k.2.2.2 r.2) (cw k.2.2.2 σ) [(0, .ref (k.2.2.2.1 3)), (2, .int x2), (3, .int x3), (4, .int x4)] [] 9) (σ : St) (x2 : Int32) (x3 : Int32) (x4 : Int32) (r : Int32 × St) (hf : fX1_joinedWith_b9 rc9 σ x2 x3 x4 = some r) : G k X 7 (some (.int r.1)) (cw k.2.2.2 r.2) (cw k.2.2.2 σ) [(0, .ref (k.2.2.2.1 3)), (2, .int x2), (3, .int x3), (4, .int x4)] [] 9 := by
  unfold fX1_joinedWith_b9 at hf
  refine g_iload E 3 dX1_joinedWith_9 rfl ?_
  refine g_bipush (v := (6 : Int32)) E dX1_joinedWith_11 (by decide) ?_
  refine g_icmp_ge (tgt := 62) E dX1_joinedWith_13 (by decide) (fun c1 => ?_) (fun c1 => ?_)
  · have hf := gp hf c1
    refine g_iload_n E 1 dX1_joinedWith_62 rfl rfl ?_
    have hf := Option.some.inj hf
    subst hf
    exact g_iret E dX1_joinedWith_63
  · have hf := gn hf c1
    refine g_iconst (v := (0 : Int32)) E dX1_joinedWith_16 (by decide) ?_
    refine g_istore E [(5, .int (0 : Int32)), (0, .ref (k.2.2.2.1 3)), (2, .int x2), (3, .int x3), (4, .int x4)] dX1_joinedWith_17 (by decide) rfl ?_
    exact g_sub [1, 2, 3, 4, 0] rfl (fX1_joinedWith_v19 E rc9 hrc9 gF σ x2 x3 x4 (0 : Int32) r hf)
theorem fX1_joinedWith_v9 {k : gK} {X : gX} (E : gE k X cX1_joinedWith RX1 wsX1_joinedWith 7 (some .int) rm_fX1_joinedWith) : ∀ (n : Nat) (σ : St) (x2 : Int32) (x3 : Int32) (x4 : Int32) (r : Int32 × St), fX1_joinedWith_l9 n σ x2 x3 x4 = some r → G k X 7 (some (.int r.1)) (cw k.2.2.2 r.2) (cw k.2.2.2 σ) [(0, .ref (k.2.2.2.1 3)), (2, .int x2), (3, .int x3), (4, .int x4)] [] 9 := by
  intro n
  induction n with
  | zero => intro σ x2 x3 x4 r hf; cases hf
  | succ n ih => intro σ x2 x3 x4 r hf; exact fX1_joinedWith_w9 E (fX1_joinedWith_l9 n) ih σ x2 x3 x4 r hf
set_option maxHeartbeats 4000000 in
set_option maxRecDepth 100000 in
theorem fX1_joinedWith_c (k : gK) (σ : St) (x1 : Int32) (r : Int32 × St) (hf : fX1_joinedWith σ x1 = some r) : MC k yX1_joinedWith wsX1_joinedWith rm_fX1_joinedWith [.ref (k.2.2.2.1 3), .int x1] (cw k.2.2.2 σ) (some (.int r.1)) (cw k.2.2.2 r.2) := by
  refine MC_of (cc := cX1_joinedWith) (maxL := 7) (ret := (some .int)) (own := RX1) (lvs := [(0, .ref (k.2.2.2.1 3)), (1, .int x1)]) (by decide) rfl rfl (Nat.le_of_ble_eq_true rfl) rfl (fun X E => ?_)
  unfold fX1_joinedWith at hf
  refine g_iconst (v := (0 : Int32)) E dX1_joinedWith_0 (by decide) ?_
  refine g_istore_n E [(2, .int (0 : Int32)), (0, .ref (k.2.2.2.1 3)), (1, .int x1)] dX1_joinedWith_1 rfl (by decide) rfl ?_
  refine g_iconst (v := (1 : Int32)) E dX1_joinedWith_2 (by decide) ?_
  refine g_iload_n E 2 dX1_joinedWith_3 rfl rfl ?_
  refine g_ishl E dX1_joinedWith_4 ?_
  refine g_istore_n E [(3, .int ((1 : Int32) <<< (x1 &&& 31))), (2, .int (0 : Int32)), (0, .ref (k.2.2.2.1 3)), (1, .int x1)] dX1_joinedWith_5 rfl (by decide) rfl ?_
  refine g_iconst (v := (0 : Int32)) E dX1_joinedWith_6 (by decide) ?_
  refine g_istore E [(4, .int (0 : Int32)), (3, .int ((1 : Int32) <<< (x1 &&& 31))), (2, .int (0 : Int32)), (0, .ref (k.2.2.2.1 3)), (1, .int x1)] dX1_joinedWith_7 (by decide) rfl ?_
  exact g_sub [3, 2, 1, 0] rfl (fX1_joinedWith_v9 E gF σ (0 : Int32) ((1 : Int32) <<< (x1 &&& 31)) (0 : Int32) r hf)
theorem hi_X8_joined_X8 : ∀ w ∈ wsX80, w ∈ wsX8_joined := by decide +kernel
theorem hk_X8_joined_10 : Cond.fieldLink RX8 10 "PaperMarks" "judges" "LPaperMarks$Judges;" ∈ wsX8_joined := by decide +kernel
theorem hk_X8_joined_26 : Cond.fieldLink RX8 26 "PaperMarks" "marks" "LPaperMarks$Marks;" ∈ wsX8_joined := by decide +kernel
def rm_fX8_joined : Room := { frames := 4, cells := 0, slots := 0, locals := 93 }
set_option maxHeartbeats 4000000 in
set_option maxRecDepth 100000 in
theorem fX8_joined_c (k : gK) (σ : St) (x1 : Int32) (r : Int32 × St) (hf : fX8_joined σ x1 = some r) : MC k yX8_joined wsX8_joined rm_fX8_joined [.ref (k.2.2.2.1 0), .int x1] (cw k.2.2.2 σ) (some (.int r.1)) (cw k.2.2.2 r.2) := by
  refine MC_of (cc := cX8_joined) (maxL := 2) (ret := (some .int)) (own := RX8) (lvs := [(0, .ref (k.2.2.2.1 0)), (1, .int x1)]) (by decide) rfl rfl (Nat.le_of_ble_eq_true rfl) rfl (fun X E => ?_)
  unfold fX8_joined at hf
  refine g_aload_n E 0 dX8_joined_0 rfl rfl ?_
  refine g_get (C := RX8) (T := TX8) (N := 7) (ci := 8) E 0 0 (.ref (k.2.2.2.1 1)) hi_X8_joined_X8 (cwG0 _ _) rfl (by decide) hk_X8_joined_10 rfl dX8_joined_1 ?_
  refine g_iload_n E 1 dX8_joined_4 rfl rfl ?_
  obtain ⟨q1, hq2, hf⟩ := gb hf
  refine g_callV (C := RX0) (T := TX0) (N := 5) (ci := 0) (As := [.int x1]) (rest := []) (n := 1) E 1 (fX0_has_c k σ x1 q1 hq2) gX8_joined_X0_has rfl rfl rfl (by decide +kernel) ⟨Nat.le_of_ble_eq_true rfl, Nat.le_of_ble_eq_true rfl⟩ rfl rfl (Nat.le_of_ble_eq_true rfl) rfl (cwG1 _ _) dX8_joined_5 ?_
  refine g_if_eq (tgt := 22) E dX8_joined_8 (by decide) (fun c3 => ?_) (fun c3 => ?_)
  · have hf := gp hf c3
    refine g_iconst (v := (-1 : Int32)) E dX8_joined_22 (by decide) ?_
    have hf := Option.some.inj hf
    subst hf
    exact g_iret E dX8_joined_23
  · have hf := gn hf c3
    refine g_aload_n E 0 dX8_joined_11 rfl rfl ?_
    refine g_get (C := RX8) (T := TX8) (N := 7) (ci := 8) E 0 2 (.ref (k.2.2.2.1 3)) hi_X8_joined_X8 (cwG0 _ _) rfl (by decide) hk_X8_joined_26 rfl dX8_joined_12 ?_
    refine g_iload_n E 1 dX8_joined_15 rfl rfl ?_
    obtain ⟨q4, hq5, hf⟩ := gb hf
    refine g_callV (C := RX1) (T := TX1) (N := 2) (ci := 1) (As := [.int x1]) (rest := []) (n := 1) E 3 (fX1_joinedWith_c k q1.2 x1 q4 hq5) gX8_joined_X1_joinedWith rfl rfl rfl (by decide +kernel) ⟨Nat.le_of_ble_eq_true rfl, Nat.le_of_ble_eq_true rfl⟩ rfl rfl (Nat.le_of_ble_eq_true rfl) rfl (cwG3 _ _) dX8_joined_16 ?_
    refine g_goto (tgt := 23) E dX8_joined_19 (by decide) ?_
    have hf := Option.some.inj hf
    subst hf
    exact g_iret E dX8_joined_23
theorem hi_X8_parts_X8 : ∀ w ∈ wsX80, w ∈ wsX8_parts := by decide +kernel
theorem hi_X8_parts_X0 : ∀ w ∈ wsX00, w ∈ wsX8_parts := by decide +kernel
theorem hk_X8_parts_10 : Cond.fieldLink RX8 10 "PaperMarks" "judges" "LPaperMarks$Judges;" ∈ wsX8_parts := by decide +kernel
theorem hk_X8_parts_191 : Cond.fieldLink RX8 191 "PaperMarks$Judges" "count" "I" ∈ wsX8_parts := by decide +kernel
theorem hk_X8_parts_26 : Cond.fieldLink RX8 26 "PaperMarks" "marks" "LPaperMarks$Marks;" ∈ wsX8_parts := by decide +kernel
def rm_fX8_parts : Room := { frames := 4, cells := 0, slots := 0, locals := 93 }
set_option maxHeartbeats 4000000 in
set_option maxRecDepth 100000 in
theorem fX8_parts_w37 {k : gK} {X : gX} (E : gE k X cX8_parts RX8 wsX8_parts 4 (some .int) rm_fX8_parts) (rc4 : St → Int32 → Int32 → Option (Int32 × St)) (hrc4 : ∀ (σ : St) (x1 : Int32) (x2 : Int32) (r : Int32 × St), rc4 σ x1 x2 = some r → G k X 4 (some (.int r.1)) (cw k.2.2.2 r.2) (cw k.2.2.2 σ) [(0, .ref (k.2.2.2.1 0)), (1, .int x1), (2, .int x2)] [] 4) (σ : St) (x1 : Int32) (x2 : Int32) (r : Int32 × St) (hf : fX8_parts_b37 rc4 σ x1 x2 = some r) : G k X 4 (some (.int r.1)) (cw k.2.2.2 r.2) (cw k.2.2.2 σ) [(0, .ref (k.2.2.2.1 0)), (1, .int x1), (2, .int x2)] [] 37 := by
  unfold fX8_parts_b37 at hf
  refine g_iinc E 2 [(2, .int (x2 + (1 : Int32))), (0, .ref (k.2.2.2.1 0)), (1, .int x1)] (x2 + (1 : Int32)) dX8_parts_37 rfl (by rfl) (by decide) rfl ?_
  refine g_goto (tgt := 4) E dX8_parts_40 (by decide) ?_
  exact g_sub [1, 2, 0] rfl (hrc4 σ x1 (x2 + (1 : Int32)) r hf)
set_option maxHeartbeats 4000000 in
set_option maxRecDepth 100000 in
theorem fX8_parts_w4 {k : gK} {X : gX} (E : gE k X cX8_parts RX8 wsX8_parts 4 (some .int) rm_fX8_parts) (rc4 : St → Int32 → Int32 → Option (Int32 × St)) (hrc4 : ∀ (σ : St) (x1 : Int32) (x2 : Int32) (r : Int32 × St), rc4 σ x1 x2 = some r → G k X 4 (some (.int r.1)) (cw k.2.2.2 r.2) (cw k.2.2.2 σ) [(0, .ref (k.2.2.2.1 0)), (1, .int x1), (2, .int x2)] [] 4) (σ : St) (x1 : Int32) (x2 : Int32) (r : Int32 × St) (hf : fX8_parts_b4 rc4 σ x1 x2 = some r) : G k X 4 (some (.int r.1)) (cw k.2.2.2 r.2) (cw k.2.2.2 σ) [(0, .ref (k.2.2.2.1 0)), (1, .int x1), (2, .int x2)] [] 4 := by
  unfold fX8_parts_b4 at hf
  refine g_iload_n E 2 dX8_parts_4 rfl rfl ?_
  refine g_aload_n E 0 dX8_parts_5 rfl rfl ?_
  refine g_get (C := RX8) (T := TX8) (N := 7) (ci := 8) E 0 0 (.ref (k.2.2.2.1 1)) hi_X8_parts_X8 (cwG0 _ _) rfl (by decide) hk_X8_parts_10 rfl dX8_parts_6 ?_
  refine g_get (C := RX0) (T := TX0) (N := 5) (ci := 0) E 1 4 (.int (σ.2.1 0)) hi_X8_parts_X0 (cwG1 _ _) rfl (by decide) hk_X8_parts_191 rfl dX8_parts_9 ?_
  refine g_icmp_ge (tgt := 43) E dX8_parts_12 (by decide) (fun c1 => ?_) (fun c1 => ?_)
  · have hf := gp hf c1
    refine g_iload_n E 1 dX8_parts_43 rfl rfl ?_
    have hf := Option.some.inj hf
    subst hf
    exact g_iret E dX8_parts_44
  · have hf := gn hf c1
    refine g_aload_n E 0 dX8_parts_15 rfl rfl ?_
    refine g_get (C := RX8) (T := TX8) (N := 7) (ci := 8) E 0 2 (.ref (k.2.2.2.1 3)) hi_X8_parts_X8 (cwG0 _ _) rfl (by decide) hk_X8_parts_26 rfl dX8_parts_16 ?_
    refine g_iload_n E 2 dX8_parts_19 rfl rfl ?_
    obtain ⟨q2, hq3, hf⟩ := gb hf
    refine g_callV (C := RX1) (T := TX1) (N := 2) (ci := 1) (As := [.int x2]) (rest := []) (n := 1) E 3 (fX1_joinedWith_c k σ x2 q2 hq3) gX8_parts_X1_joinedWith rfl rfl rfl (by decide +kernel) ⟨Nat.le_of_ble_eq_true rfl, Nat.le_of_ble_eq_true rfl⟩ rfl rfl (Nat.le_of_ble_eq_true rfl) rfl (cwG3 _ _) dX8_parts_20 ?_
    refine g_istore_n E [(3, .int q2.1), (0, .ref (k.2.2.2.1 0)), (1, .int x1), (2, .int x2)] dX8_parts_23 rfl (by decide) rfl ?_
    refine g_iload_n E 0 dX8_parts_24 rfl rfl ?_
    refine g_iload_n E 0 dX8_parts_25 rfl rfl ?_
    refine g_ineg E dX8_parts_26 ?_
    refine g_iand E dX8_parts_27 ?_
    refine g_iconst (v := (1 : Int32)) E dX8_parts_28 (by decide) ?_
    refine g_iload_n E 3 dX8_parts_29 rfl rfl ?_
    refine g_ishl E dX8_parts_30 ?_
    refine g_icmp_ne (tgt := 37) E dX8_parts_31 (by decide) (fun c4 => ?_) (fun c4 => ?_)
    · have hf := gn hf c4
      exact g_sub [1, 2, 3] rfl (fX8_parts_w37 E rc4 hrc4 q2.2 x1 x2 r hf)
    · have hf := gp hf c4
      refine g_iinc E 2 [(1, .int (x1 + (1 : Int32))), (3, .int q2.1), (0, .ref (k.2.2.2.1 0)), (2, .int x2)] (x1 + (1 : Int32)) dX8_parts_34 rfl (by rfl) (by decide) rfl ?_
      exact g_sub [2, 0, 3] rfl (fX8_parts_w37 E rc4 hrc4 q2.2 (x1 + (1 : Int32)) x2 r hf)
theorem fX8_parts_v4 {k : gK} {X : gX} (E : gE k X cX8_parts RX8 wsX8_parts 4 (some .int) rm_fX8_parts) : ∀ (n : Nat) (σ : St) (x1 : Int32) (x2 : Int32) (r : Int32 × St), fX8_parts_l4 n σ x1 x2 = some r → G k X 4 (some (.int r.1)) (cw k.2.2.2 r.2) (cw k.2.2.2 σ) [(0, .ref (k.2.2.2.1 0)), (1, .int x1), (2, .int x2)] [] 4 := by
  intro n
  induction n with
  | zero => intro σ x1 x2 r hf; cases hf
  | succ n ih => intro σ x1 x2 r hf; exact fX8_parts_w4 E (fX8_parts_l4 n) ih σ x1 x2 r hf
set_option maxHeartbeats 4000000 in
set_option maxRecDepth 100000 in
theorem fX8_parts_c (k : gK) (σ : St) (r : Int32 × St) (hf : fX8_parts σ = some r) : MC k yX8_parts wsX8_parts rm_fX8_parts [.ref (k.2.2.2.1 0)] (cw k.2.2.2 σ) (some (.int r.1)) (cw k.2.2.2 r.2) := by
  refine MC_of (cc := cX8_parts) (maxL := 4) (ret := (some .int)) (own := RX8) (lvs := [(0, .ref (k.2.2.2.1 0))]) (by decide) rfl rfl (Nat.le_of_ble_eq_true rfl) rfl (fun X E => ?_)
  unfold fX8_parts at hf
  refine g_iconst (v := (0 : Int32)) E dX8_parts_0 (by decide) ?_
  refine g_istore_n E [(1, .int (0 : Int32)), (0, .ref (k.2.2.2.1 0))] dX8_parts_1 rfl (by decide) rfl ?_
  refine g_iconst (v := (0 : Int32)) E dX8_parts_2 (by decide) ?_
  refine g_istore_n E [(2, .int (0 : Int32)), (1, .int (0 : Int32)), (0, .ref (k.2.2.2.1 0))] dX8_parts_3 rfl (by decide) rfl ?_
  exact g_sub [2, 1, 0] rfl (fX8_parts_v4 E gF σ (0 : Int32) (0 : Int32) r hf)
def rm_fX1_countOf : Room := { frames := 3, cells := 0, slots := 0, locals := 67 }
set_option maxHeartbeats 4000000 in
set_option maxRecDepth 100000 in
theorem fX1_countOf_c (k : gK) (σ : St) (x1 : Int32) (r : Int32 × St) (hf : fX1_countOf σ x1 = some r) : MC k yX1_countOf wsX1_countOf rm_fX1_countOf [.ref (k.2.2.2.1 3), .int x1] (cw k.2.2.2 σ) (some (.int r.1)) (cw k.2.2.2 r.2) := by
  refine MC_of (cc := cX1_countOf) (maxL := 2) (ret := (some .int)) (own := RX1) (lvs := [(0, .ref (k.2.2.2.1 3)), (1, .int x1)]) (by decide) rfl rfl (Nat.le_of_ble_eq_true rfl) rfl (fun X E => ?_)
  unfold fX1_countOf at hf
  refine g_aload_n E 0 dX1_countOf_0 rfl rfl ?_
  refine g_iload_n E 1 dX1_countOf_1 rfl rfl ?_
  obtain ⟨q1, hq2, hf⟩ := gb hf
  refine g_callV (C := RX1) (T := TX1) (N := 2) (ci := 1) (As := [.int x1]) (rest := []) (n := 1) E 3 (fX1_judgesOf_c k σ x1 q1 hq2) gX1_countOf_X1_judgesOf rfl rfl rfl (by decide +kernel) ⟨Nat.le_of_ble_eq_true rfl, Nat.le_of_ble_eq_true rfl⟩ rfl rfl (Nat.le_of_ble_eq_true rfl) rfl (cwG3 _ _) dX1_countOf_2 ?_
  obtain ⟨q3, hq4, hf⟩ := gb hf
  refine g_callS (As := [.int q1.1]) (rest := []) (n := 1) E (fJ6_bitCount_0f7a4_c k q1.2 q1.1 q3 hq4) gX1_countOf_J6_bitCount_0f7a4 rfl rfl rfl (by decide +kernel) ⟨Nat.le_of_ble_eq_true rfl, Nat.le_of_ble_eq_true rfl⟩ rfl rfl (Nat.le_of_ble_eq_true rfl) dX1_countOf_5 ?_
  have hf := Option.some.inj hf
  subst hf
  exact g_iret E dX1_countOf_8
def rm_fX1_comparable : Room := { frames := 4, cells := 0, slots := 0, locals := 88 }
set_option maxHeartbeats 4000000 in
set_option maxRecDepth 100000 in
theorem fX1_comparable_c (k : gK) (σ : St) (x1 : Int32) (x2 : Int32) (r : Int32 × St) (hf : fX1_comparable σ x1 x2 = some r) : MC k yX1_comparable wsX1_comparable rm_fX1_comparable [.ref (k.2.2.2.1 3), .int x1, .int x2] (cw k.2.2.2 σ) (some (.int r.1)) (cw k.2.2.2 r.2) := by
  refine MC_of (cc := cX1_comparable) (maxL := 3) (ret := (some .boolean)) (own := RX1) (lvs := [(0, .ref (k.2.2.2.1 3)), (1, .int x1), (2, .int x2)]) (by decide) rfl rfl (Nat.le_of_ble_eq_true rfl) rfl (fun X E => ?_)
  unfold fX1_comparable at hf
  refine g_aload_n E 0 dX1_comparable_0 rfl rfl ?_
  refine g_iload_n E 1 dX1_comparable_1 rfl rfl ?_
  refine g_iload_n E 2 dX1_comparable_2 rfl rfl ?_
  obtain ⟨q1, hq2, hf⟩ := gb hf
  refine g_callV (C := RX1) (T := TX1) (N := 2) (ci := 1) (As := [.int x1, .int x2]) (rest := []) (n := 2) E 3 (fX1_has_c k σ x1 x2 q1 hq2) gX1_comparable_X1_has rfl rfl rfl (by decide +kernel) ⟨Nat.le_of_ble_eq_true rfl, Nat.le_of_ble_eq_true rfl⟩ rfl rfl (Nat.le_of_ble_eq_true rfl) rfl (cwG3 _ _) dX1_comparable_3 ?_
  refine g_if_eq (tgt := 22) E dX1_comparable_6 (by decide) (fun c3 => ?_) (fun c3 => ?_)
  · have hf := gp hf c3
    refine g_iconst (v := (0 : Int32)) E dX1_comparable_22 (by decide) ?_
    have hf := Option.some.inj hf
    subst hf
    exact g_zret E (Or.inl rfl) dX1_comparable_23
  · have hf := gn hf c3
    refine g_aload_n E 0 dX1_comparable_9 rfl rfl ?_
    refine g_iload_n E 2 dX1_comparable_10 rfl rfl ?_
    obtain ⟨q4, hq5, hf⟩ := gb hf
    refine g_callV (C := RX1) (T := TX1) (N := 2) (ci := 1) (As := [.int x2]) (rest := []) (n := 1) E 3 (fX1_countOf_c k q1.2 x2 q4 hq5) gX1_comparable_X1_countOf rfl rfl rfl (by decide +kernel) ⟨Nat.le_of_ble_eq_true rfl, Nat.le_of_ble_eq_true rfl⟩ rfl rfl (Nat.le_of_ble_eq_true rfl) rfl (cwG3 _ _) dX1_comparable_11 ?_
    refine g_iconst (v := (1 : Int32)) E dX1_comparable_14 (by decide) ?_
    refine g_icmp_le (tgt := 22) E dX1_comparable_15 (by decide) (fun c6 => ?_) (fun c6 => ?_)
    · have hf := gp hf c6
      refine g_iconst (v := (0 : Int32)) E dX1_comparable_22 (by decide) ?_
      have hf := Option.some.inj hf
      subst hf
      exact g_zret E (Or.inl rfl) dX1_comparable_23
    · have hf := gn hf c6
      refine g_iconst (v := (1 : Int32)) E dX1_comparable_18 (by decide) ?_
      refine g_goto (tgt := 23) E dX1_comparable_19 (by decide) ?_
      have hf := Option.some.inj hf
      subst hf
      exact g_zret E (Or.inr rfl) dX1_comparable_23
def rm_fX1_sumOf : Room := { frames := 2, cells := 0, slots := 0, locals := 44 }
set_option maxHeartbeats 4000000 in
set_option maxRecDepth 100000 in
theorem fX1_sumOf_w30 {k : gK} {X : gX} (E : gE k X cX1_sumOf RX1 wsX1_sumOf 4 (some .int) rm_fX1_sumOf) (rc4 : St → Int32 → Int32 → Int32 → Option (Int32 × St)) (hrc4 : ∀ (σ : St) (x1 : Int32) (x2 : Int32) (x3 : Int32) (r : Int32 × St), rc4 σ x1 x2 x3 = some r → G k X 4 (some (.int r.1)) (cw k.2.2.2 r.2) (cw k.2.2.2 σ) [(0, .ref (k.2.2.2.1 3)), (1, .int x1), (2, .int x2), (3, .int x3)] [] 4) (σ : St) (x1 : Int32) (x3 : Int32) (t0 : Int32) (t1 : Int32) (r : Int32 × St) (hf : fX1_sumOf_b30 rc4 σ x1 x3 t0 t1 = some r) : G k X 4 (some (.int r.1)) (cw k.2.2.2 r.2) (cw k.2.2.2 σ) [(0, .ref (k.2.2.2.1 3)), (1, .int x1), (3, .int x3)] [.int t1, .int t0] 30 := by
  unfold fX1_sumOf_b30 at hf
  refine g_iadd E dX1_sumOf_30 ?_
  refine g_istore_n E [(2, .int (t0 + t1)), (0, .ref (k.2.2.2.1 3)), (1, .int x1), (3, .int x3)] dX1_sumOf_31 rfl (by decide) rfl ?_
  refine g_iinc E 3 [(3, .int (x3 + (1 : Int32))), (2, .int (t0 + t1)), (0, .ref (k.2.2.2.1 3)), (1, .int x1)] (x3 + (1 : Int32)) dX1_sumOf_32 rfl (by rfl) (by decide) rfl ?_
  refine g_goto (tgt := 4) E dX1_sumOf_35 (by decide) ?_
  exact g_sub [2, 3, 1, 0] rfl (hrc4 σ x1 (t0 + t1) (x3 + (1 : Int32)) r hf)
set_option maxHeartbeats 4000000 in
set_option maxRecDepth 100000 in
theorem fX1_sumOf_w4 {k : gK} {X : gX} (E : gE k X cX1_sumOf RX1 wsX1_sumOf 4 (some .int) rm_fX1_sumOf) (rc4 : St → Int32 → Int32 → Int32 → Option (Int32 × St)) (hrc4 : ∀ (σ : St) (x1 : Int32) (x2 : Int32) (x3 : Int32) (r : Int32 × St), rc4 σ x1 x2 x3 = some r → G k X 4 (some (.int r.1)) (cw k.2.2.2 r.2) (cw k.2.2.2 σ) [(0, .ref (k.2.2.2.1 3)), (1, .int x1), (2, .int x2), (3, .int x3)] [] 4) (σ : St) (x1 : Int32) (x2 : Int32) (x3 : Int32) (r : Int32 × St) (hf : fX1_sumOf_b4 rc4 σ x1 x2 x3 = some r) : G k X 4 (some (.int r.1)) (cw k.2.2.2 r.2) (cw k.2.2.2 σ) [(0, .ref (k.2.2.2.1 3)), (1, .int x1), (2, .int x2), (3, .int x3)] [] 4 := by
  unfold fX1_sumOf_b4 at hf
  refine g_iload_n E 3 dX1_sumOf_4 rfl rfl ?_
  refine g_bipush (v := (6 : Int32)) E dX1_sumOf_5 (by decide) ?_
  refine g_icmp_ge (tgt := 38) E dX1_sumOf_7 (by decide) (fun c1 => ?_) (fun c1 => ?_)
  · have hf := gp hf c1
    refine g_iload_n E 2 dX1_sumOf_38 rfl rfl ?_
    have hf := Option.some.inj hf
    subst hf
    exact g_iret E dX1_sumOf_39
  · have hf := gn hf c1
    refine g_iload_n E 2 dX1_sumOf_10 rfl rfl ?_
    refine g_aload_n E 0 dX1_sumOf_11 rfl rfl ?_
    refine g_iload_n E 3 dX1_sumOf_12 rfl rfl ?_
    refine g_iload_n E 1 dX1_sumOf_13 rfl rfl ?_
    obtain ⟨q2, hq3, hf⟩ := gb hf
    refine g_callV (C := RX1) (T := TX1) (N := 2) (ci := 1) (As := [.int x3, .int x1]) (rest := [.int x2]) (n := 2) E 3 (fX1_has_c k σ x3 x1 q2 hq3) gX1_sumOf_X1_has rfl rfl rfl (by decide +kernel) ⟨Nat.le_of_ble_eq_true rfl, Nat.le_of_ble_eq_true rfl⟩ rfl rfl (Nat.le_of_ble_eq_true rfl) rfl (cwG3 _ _) dX1_sumOf_14 ?_
    refine g_if_eq (tgt := 29) E dX1_sumOf_17 (by decide) (fun c4 => ?_) (fun c4 => ?_)
    · have hf := gp hf c4
      refine g_iconst (v := (0 : Int32)) E dX1_sumOf_29 (by decide) ?_
      exact g_sub [0, 1, 3] rfl (fX1_sumOf_w30 E rc4 hrc4 q2.2 x1 x3 x2 (0 : Int32) r hf)
    · have hf := gn hf c4
      refine g_aload_n E 0 dX1_sumOf_20 rfl rfl ?_
      refine g_iload_n E 3 dX1_sumOf_21 rfl rfl ?_
      refine g_iload_n E 1 dX1_sumOf_22 rfl rfl ?_
      obtain ⟨q5, hq6, hf⟩ := gb hf
      refine g_callV (C := RX1) (T := TX1) (N := 2) (ci := 1) (As := [.int x3, .int x1]) (rest := [.int x2]) (n := 2) E 3 (fX1_of_c k q2.2 x3 x1 q5 hq6) gX1_sumOf_X1_of rfl rfl rfl (by decide +kernel) ⟨Nat.le_of_ble_eq_true rfl, Nat.le_of_ble_eq_true rfl⟩ rfl rfl (Nat.le_of_ble_eq_true rfl) rfl (cwG3 _ _) dX1_sumOf_23 ?_
      refine g_goto (tgt := 30) E dX1_sumOf_26 (by decide) ?_
      exact g_sub [0, 1, 3] rfl (fX1_sumOf_w30 E rc4 hrc4 q5.2 x1 x3 x2 q5.1 r hf)
theorem fX1_sumOf_v4 {k : gK} {X : gX} (E : gE k X cX1_sumOf RX1 wsX1_sumOf 4 (some .int) rm_fX1_sumOf) : ∀ (n : Nat) (σ : St) (x1 : Int32) (x2 : Int32) (x3 : Int32) (r : Int32 × St), fX1_sumOf_l4 n σ x1 x2 x3 = some r → G k X 4 (some (.int r.1)) (cw k.2.2.2 r.2) (cw k.2.2.2 σ) [(0, .ref (k.2.2.2.1 3)), (1, .int x1), (2, .int x2), (3, .int x3)] [] 4 := by
  intro n
  induction n with
  | zero => intro σ x1 x2 x3 r hf; cases hf
  | succ n ih => intro σ x1 x2 x3 r hf; exact fX1_sumOf_w4 E (fX1_sumOf_l4 n) ih σ x1 x2 x3 r hf
set_option maxHeartbeats 4000000 in
set_option maxRecDepth 100000 in
theorem fX1_sumOf_c (k : gK) (σ : St) (x1 : Int32) (r : Int32 × St) (hf : fX1_sumOf σ x1 = some r) : MC k yX1_sumOf wsX1_sumOf rm_fX1_sumOf [.ref (k.2.2.2.1 3), .int x1] (cw k.2.2.2 σ) (some (.int r.1)) (cw k.2.2.2 r.2) := by
  refine MC_of (cc := cX1_sumOf) (maxL := 4) (ret := (some .int)) (own := RX1) (lvs := [(0, .ref (k.2.2.2.1 3)), (1, .int x1)]) (by decide) rfl rfl (Nat.le_of_ble_eq_true rfl) rfl (fun X E => ?_)
  unfold fX1_sumOf at hf
  refine g_iconst (v := (0 : Int32)) E dX1_sumOf_0 (by decide) ?_
  refine g_istore_n E [(2, .int (0 : Int32)), (0, .ref (k.2.2.2.1 3)), (1, .int x1)] dX1_sumOf_1 rfl (by decide) rfl ?_
  refine g_iconst (v := (0 : Int32)) E dX1_sumOf_2 (by decide) ?_
  refine g_istore_n E [(3, .int (0 : Int32)), (2, .int (0 : Int32)), (0, .ref (k.2.2.2.1 3)), (1, .int x1)] dX1_sumOf_3 rfl (by decide) rfl ?_
  exact g_sub [2, 3, 1, 0] rfl (fX1_sumOf_v4 E gF σ x1 (0 : Int32) (0 : Int32) r hf)
def rm_fX1_aboveOthers : Room := { frames := 4, cells := 0, slots := 0, locals := 88 }
set_option maxHeartbeats 4000000 in
set_option maxRecDepth 100000 in
theorem fX1_aboveOthers_c (k : gK) (σ : St) (x1 : Int32) (x2 : Int32) (r : Int32 × St) (hf : fX1_aboveOthers σ x1 x2 = some r) : MC k yX1_aboveOthers wsX1_aboveOthers rm_fX1_aboveOthers [.ref (k.2.2.2.1 3), .int x1, .int x2] (cw k.2.2.2 σ) (some (.int r.1)) (cw k.2.2.2 r.2) := by
  refine MC_of (cc := cX1_aboveOthers) (maxL := 5) (ret := (some .int)) (own := RX1) (lvs := [(0, .ref (k.2.2.2.1 3)), (1, .int x1), (2, .int x2)]) (by decide) rfl rfl (Nat.le_of_ble_eq_true rfl) rfl (fun X E => ?_)
  unfold fX1_aboveOthers at hf
  refine g_aload_n E 0 dX1_aboveOthers_0 rfl rfl ?_
  refine g_iload_n E 2 dX1_aboveOthers_1 rfl rfl ?_
  obtain ⟨q1, hq2, hf⟩ := gb hf
  refine g_callV (C := RX1) (T := TX1) (N := 2) (ci := 1) (As := [.int x2]) (rest := []) (n := 1) E 3 (fX1_countOf_c k σ x2 q1 hq2) gX1_aboveOthers_X1_countOf rfl rfl rfl (by decide +kernel) ⟨Nat.le_of_ble_eq_true rfl, Nat.le_of_ble_eq_true rfl⟩ rfl rfl (Nat.le_of_ble_eq_true rfl) rfl (cwG3 _ _) dX1_aboveOthers_2 ?_
  refine g_iconst (v := (1 : Int32)) E dX1_aboveOthers_5 (by decide) ?_
  refine g_isub E dX1_aboveOthers_6 ?_
  refine g_istore_n E [(3, .int (q1.1 - (1 : Int32))), (0, .ref (k.2.2.2.1 3)), (1, .int x1), (2, .int x2)] dX1_aboveOthers_7 rfl (by decide) rfl ?_
  refine g_iload_n E 0 dX1_aboveOthers_8 rfl rfl ?_
  refine g_if_gt (tgt := 14) E dX1_aboveOthers_9 (by decide) (fun c3 => ?_) (fun c3 => ?_)
  · have hf := gp hf c3
    refine g_aload_n E 1 dX1_aboveOthers_14 rfl rfl ?_
    refine g_iload_n E 2 dX1_aboveOthers_15 rfl rfl ?_
    refine g_iload_n E 3 dX1_aboveOthers_16 rfl rfl ?_
    obtain ⟨q4, hq5, hf⟩ := gb hf
    refine g_callV (C := RX1) (T := TX1) (N := 2) (ci := 1) (As := [.int x1, .int x2]) (rest := []) (n := 2) E 3 (fX1_of_c k q1.2 x1 x2 q4 hq5) gX1_aboveOthers_X1_of rfl rfl rfl (by decide +kernel) ⟨Nat.le_of_ble_eq_true rfl, Nat.le_of_ble_eq_true rfl⟩ rfl rfl (Nat.le_of_ble_eq_true rfl) rfl (cwG3 _ _) dX1_aboveOthers_17 ?_
    refine g_istore E [(4, .int q4.1), (3, .int (q1.1 - (1 : Int32))), (0, .ref (k.2.2.2.1 3)), (1, .int x1), (2, .int x2)] dX1_aboveOthers_20 (by decide) rfl ?_
    refine g_iload E 0 dX1_aboveOthers_22 rfl ?_
    refine g_bipush (v := (60 : Int32)) E dX1_aboveOthers_24 (by decide) ?_
    refine g_imul E dX1_aboveOthers_26 ?_
    refine g_aload_n E 2 dX1_aboveOthers_27 rfl rfl ?_
    refine g_iload_n E 4 dX1_aboveOthers_28 rfl rfl ?_
    obtain ⟨q6, hq7, hf⟩ := gb hf
    refine g_callV (C := RX1) (T := TX1) (N := 2) (ci := 1) (As := [.int x2]) (rest := [.int (q4.1 * (60 : Int32))]) (n := 1) E 3 (fX1_sumOf_c k q4.2 x2 q6 hq7) gX1_aboveOthers_X1_sumOf rfl rfl rfl (by decide +kernel) ⟨Nat.le_of_ble_eq_true rfl, Nat.le_of_ble_eq_true rfl⟩ rfl rfl (Nat.le_of_ble_eq_true rfl) rfl (cwG3 _ _) dX1_aboveOthers_29 ?_
    refine g_iload E 0 dX1_aboveOthers_32 rfl ?_
    refine g_isub E dX1_aboveOthers_34 ?_
    refine g_bipush (v := (60 : Int32)) E dX1_aboveOthers_35 (by decide) ?_
    refine g_iload_n E 1 dX1_aboveOthers_37 rfl rfl ?_
    obtain ⟨hn8, hf⟩ := gd hf
    refine g_idiv E hn8 dX1_aboveOthers_38 ?_
    refine g_imul E dX1_aboveOthers_39 ?_
    refine g_isub E dX1_aboveOthers_40 ?_
    have hf := Option.some.inj hf
    subst hf
    exact g_iret E dX1_aboveOthers_41
  · have hf := gn hf c3
    refine g_iconst (v := (0 : Int32)) E dX1_aboveOthers_12 (by decide) ?_
    have hf := Option.some.inj hf
    subst hf
    exact g_iret E dX1_aboveOthers_13
