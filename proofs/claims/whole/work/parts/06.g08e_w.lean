theorem hi_X9_rounds_X9 : ∀ w ∈ wsX90, w ∈ wsX9_rounds := by decide +kernel
theorem hk_X9_rounds_118 : Cond.fieldLink RX9 118 "PaperMarksModel" "clauses" "I" ∈ wsX9_rounds := by decide +kernel
def rm_fX9_rounds : Room := { frames := 3, cells := 0, slots := 0, locals := 82 }
set_option maxHeartbeats 4000000 in
set_option maxRecDepth 100000 in
theorem fX9_rounds_w121 {k : gK} {X : gX} (E : gE k X cX9_rounds RX9 wsX9_rounds 13 (some .long) rm_fX9_rounds) (rc121 : St → Int32 → Int32 → Int32 → Int32 → Int64 → Int64 → Int64 → Int32 → Option (Int64 × St)) (hrc121 : ∀ (σ : St) (x1 : Int32) (x2 : Int32) (x3 : Int32) (x5 : Int32) (x6 : Int64) (x8 : Int64) (x10 : Int64) (x12 : Int32) (r : Int64 × St), rc121 σ x1 x2 x3 x5 x6 x8 x10 x12 = some r → G k X 13 (some (.long r.1)) (mw k.2.2.2 r.2) (mw k.2.2.2 σ) [(0, .ref (k.2.2.2.1 0)), (1, .int x1), (2, .int x2), (3, .int x3), (5, .int x5), (6, .long x6), (8, .long x8), (10, .long x10), (12, .int x12)] [] 121) (σ : St) (x1 : Int32) (x2 : Int32) (x3 : Int32) (x5 : Int32) (x6 : Int64) (x8 : Int64) (x10 : Int64) (x12 : Int32) (r : Int64 × St) (hf : fX9_rounds_b121 rc121 σ x1 x2 x3 x5 x6 x8 x10 x12 = some r) : G k X 13 (some (.long r.1)) (mw k.2.2.2 r.2) (mw k.2.2.2 σ) [(0, .ref (k.2.2.2.1 0)), (1, .int x1), (2, .int x2), (3, .int x3), (5, .int x5), (6, .long x6), (8, .long x8), (10, .long x10), (12, .int x12)] [] 121 := by
  unfold fX9_rounds_b121 at hf
  refine g_iload E 8 dX9_rounds_121 rfl ?_
  refine g_iload_n E 3 dX9_rounds_123 rfl rfl ?_
  refine g_icmp_ge (tgt := 157) E dX9_rounds_124 (by decide) (fun c1 => ?_) (fun c1 => ?_)
  · have hf := gp hf c1
    refine g_lload E 7 dX9_rounds_157 rfl ?_
    refine g_aload_n E 0 dX9_rounds_159 rfl rfl ?_
    refine g_iload_n E 1 dX9_rounds_160 rfl rfl ?_
    refine g_iload_n E 2 dX9_rounds_161 rfl rfl ?_
    obtain ⟨q2, hq3, hf⟩ := gb hf
    refine g_callV (C := RX9) (T := TX9) (N := 20) (ci := 9) (As := [.int x1, .int x2]) (rest := [.long x10]) (n := 2) E 0 (fX9_without_c k σ x1 x2 q2 hq3) gX9_rounds_X9_without rfl rfl rfl (by decide +kernel) ⟨Nat.le_of_ble_eq_true rfl, Nat.le_of_ble_eq_true rfl⟩ rfl rfl (Nat.le_of_ble_eq_true rfl) rfl (mwG0 _ _) dX9_rounds_162 ?_
    obtain ⟨q4, hq5, hf⟩ := gb hf
    refine g_callS (As := [.int q2.1]) (rest := [.long x10]) (n := 1) E (fX9_ones_c k q2.2 q2.1 q4 hq5) gX9_rounds_X9_ones rfl rfl rfl (by decide +kernel) ⟨Nat.le_of_ble_eq_true rfl, Nat.le_of_ble_eq_true rfl⟩ rfl rfl (Nat.le_of_ble_eq_true rfl) dX9_rounds_165 ?_
    refine g_i2l E dX9_rounds_168 ?_
    refine g_lmul E dX9_rounds_169 ?_
    refine g_lload E 5 dX9_rounds_170 rfl ?_
    refine g_iload_n E 3 dX9_rounds_172 rfl rfl ?_
    refine g_iconst (v := (1 : Int32)) E dX9_rounds_173 (by decide) ?_
    refine g_isub E dX9_rounds_174 ?_
    obtain ⟨q6, hq7, hf⟩ := gb hf
    refine g_callS (As := [.long x6, .int (x3 - (1 : Int32))]) (rest := [.long (x10 * q4.1.toInt64)]) (n := 2) E (fX9_power_c k q4.2 x6 ((x3 - (1 : Int32))) q6 hq7) gX9_rounds_X9_power rfl rfl rfl (by decide +kernel) ⟨Nat.le_of_ble_eq_true rfl, Nat.le_of_ble_eq_true rfl⟩ rfl rfl (Nat.le_of_ble_eq_true rfl) dX9_rounds_175 ?_
    refine g_iload E 4 dX9_rounds_178 rfl ?_
    obtain ⟨q8, hq9, hf⟩ := gb hf
    refine g_callS (As := [.long (x10 * q4.1.toInt64), .long q6.1, .int x5]) (rest := []) (n := 3) E (fX9_lowest_c k q6.2 (x10 * q4.1.toInt64) q6.1 x5 q8 hq9) gX9_rounds_X9_lowest rfl rfl rfl (by decide +kernel) ⟨Nat.le_of_ble_eq_true rfl, Nat.le_of_ble_eq_true rfl⟩ rfl rfl (Nat.le_of_ble_eq_true rfl) dX9_rounds_180 ?_
    have hf := Option.some.inj hf
    subst hf
    exact g_lret E dX9_rounds_183
  · have hf := gn hf c1
    refine g_lload E 7 dX9_rounds_127 rfl ?_
    refine g_lload E 6 dX9_rounds_129 rfl ?_
    refine g_iload E 8 dX9_rounds_131 rfl ?_
    obtain ⟨q10, hq11, hf⟩ := gb hf
    refine g_callS (As := [.long x8, .int x12]) (rest := [.long x10]) (n := 2) E (fX9_power_c k σ x8 x12 q10 hq11) gX9_rounds_X9_power rfl rfl rfl (by decide +kernel) ⟨Nat.le_of_ble_eq_true rfl, Nat.le_of_ble_eq_true rfl⟩ rfl rfl (Nat.le_of_ble_eq_true rfl) dX9_rounds_133 ?_
    refine g_lload E 5 dX9_rounds_136 rfl ?_
    refine g_iload_n E 3 dX9_rounds_138 rfl rfl ?_
    refine g_iconst (v := (1 : Int32)) E dX9_rounds_139 (by decide) ?_
    refine g_isub E dX9_rounds_140 ?_
    refine g_iload E 8 dX9_rounds_141 rfl ?_
    refine g_isub E dX9_rounds_143 ?_
    obtain ⟨q12, hq13, hf⟩ := gb hf
    refine g_callS (As := [.long x6, .int (((x3 - (1 : Int32))) - x12)]) (rest := [.long q10.1, .long x10]) (n := 2) E (fX9_power_c k q10.2 x6 ((((x3 - (1 : Int32))) - x12)) q12 hq13) gX9_rounds_X9_power rfl rfl rfl (by decide +kernel) ⟨Nat.le_of_ble_eq_true rfl, Nat.le_of_ble_eq_true rfl⟩ rfl rfl (Nat.le_of_ble_eq_true rfl) dX9_rounds_144 ?_
    refine g_lmul E dX9_rounds_147 ?_
    refine g_ladd E dX9_rounds_148 ?_
    refine g_lstore E [(10, .long (x10 + (q10.1 * q12.1))), (0, .ref (k.2.2.2.1 0)), (1, .int x1), (2, .int x2), (3, .int x3), (5, .int x5), (6, .long x6), (8, .long x8), (12, .int x12)] dX9_rounds_149 (by decide) rfl ?_
    refine g_iinc E 8 [(12, .int (x12 + (1 : Int32))), (10, .long (x10 + (q10.1 * q12.1))), (0, .ref (k.2.2.2.1 0)), (1, .int x1), (2, .int x2), (3, .int x3), (5, .int x5), (6, .long x6), (8, .long x8)] (x12 + (1 : Int32)) dX9_rounds_151 rfl (by rfl) (by decide) rfl ?_
    refine g_goto (tgt := 121) E dX9_rounds_154 (by decide) ?_
    exact g_sub [2, 3, 4, 5, 6, 7, 8, 1, 0] rfl (hrc121 q12.2 x1 x2 x3 x5 x6 x8 (x10 + (q10.1 * q12.1)) (x12 + (1 : Int32)) r hf)
theorem fX9_rounds_v121 {k : gK} {X : gX} (E : gE k X cX9_rounds RX9 wsX9_rounds 13 (some .long) rm_fX9_rounds) : ∀ (n : Nat) (σ : St) (x1 : Int32) (x2 : Int32) (x3 : Int32) (x5 : Int32) (x6 : Int64) (x8 : Int64) (x10 : Int64) (x12 : Int32) (r : Int64 × St), fX9_rounds_l121 n σ x1 x2 x3 x5 x6 x8 x10 x12 = some r → G k X 13 (some (.long r.1)) (mw k.2.2.2 r.2) (mw k.2.2.2 σ) [(0, .ref (k.2.2.2.1 0)), (1, .int x1), (2, .int x2), (3, .int x3), (5, .int x5), (6, .long x6), (8, .long x8), (10, .long x10), (12, .int x12)] [] 121 := by
  intro n
  induction n with
  | zero => intro σ x1 x2 x3 x5 x6 x8 x10 x12 r hf; cases hf
  | succ n ih => intro σ x1 x2 x3 x5 x6 x8 x10 x12 r hf; exact fX9_rounds_w121 E (fX9_rounds_l121 n) ih σ x1 x2 x3 x5 x6 x8 x10 x12 r hf
set_option maxHeartbeats 4000000 in
set_option maxRecDepth 100000 in
theorem fX9_rounds_c (k : gK) (σ : St) (x1 : Int32) (x2 : Int32) (x3 : Int32) (x4 : Int32) (x5 : Int32) (r : Int64 × St) (hf : fX9_rounds σ x1 x2 x3 x4 x5 = some r) : MC k yX9_rounds wsX9_rounds rm_fX9_rounds [.ref (k.2.2.2.1 0), .int x1, .int x2, .int x3, .int x4, .int x5] (mw k.2.2.2 σ) (some (.long r.1)) (mw k.2.2.2 r.2) := by
  refine MC_of (cc := cX9_rounds) (maxL := 13) (ret := (some .long)) (own := RX9) (lvs := [(0, .ref (k.2.2.2.1 0)), (1, .int x1), (2, .int x2), (3, .int x3), (4, .int x4), (5, .int x5)]) (by decide) rfl rfl (Nat.le_of_ble_eq_true rfl) rfl (fun X E => ?_)
  unfold fX9_rounds at hf
  refine g_aload_n E 0 dX9_rounds_0 rfl rfl ?_
  refine g_iload_n E 1 dX9_rounds_1 rfl rfl ?_
  obtain ⟨q1, hq2, hf⟩ := gb hf
  refine g_callV (C := RX9) (T := TX9) (N := 20) (ci := 9) (As := [.int x1]) (rest := []) (n := 1) E 0 (fX9_isPaper_c k σ x1 q1 hq2) gX9_rounds_X9_isPaper rfl rfl rfl (by decide +kernel) ⟨Nat.le_of_ble_eq_true rfl, Nat.le_of_ble_eq_true rfl⟩ rfl rfl (Nat.le_of_ble_eq_true rfl) rfl (mwG0 _ _) dX9_rounds_2 ?_
  refine g_if_ne (tgt := 12) E dX9_rounds_5 (by decide) (fun c3 => ?_) (fun c3 => ?_)
  · have hf := gn hf c3
    refine g_aload_n E 0 dX9_rounds_12 rfl rfl ?_
    refine g_iload_n E 2 dX9_rounds_13 rfl rfl ?_
    obtain ⟨q4, hq5, hf⟩ := gb hf
    refine g_callV (C := RX9) (T := TX9) (N := 20) (ci := 9) (As := [.int x2]) (rest := []) (n := 1) E 0 (fX9_isSet_c k q1.2 x2 q4 hq5) gX9_rounds_X9_isSet rfl rfl rfl (by decide +kernel) ⟨Nat.le_of_ble_eq_true rfl, Nat.le_of_ble_eq_true rfl⟩ rfl rfl (Nat.le_of_ble_eq_true rfl) rfl (mwG0 _ _) dX9_rounds_14 ?_
    refine g_if_eq (tgt := 51) E dX9_rounds_17 (by decide) (fun c6 => ?_) (fun c6 => ?_)
    · have hf := gp hf c6
      refine g_ldc2 (v := (-1000000000000000002 : Int64)) E (by decide +kernel) dX9_rounds_51 ?_
      have hf := Option.some.inj hf
      subst hf
      exact g_lret E dX9_rounds_54
    · have hf := gn hf c6
      refine g_iload_n E 3 dX9_rounds_20 rfl rfl ?_
      refine g_i2l E dX9_rounds_21 ?_
      refine g_lconst (v := (1 : Int64)) E dX9_rounds_22 (by decide) ?_
      refine g_ldc2 (v := (4 : Int64)) E (by decide +kernel) dX9_rounds_23 ?_
      obtain ⟨q7, hq8, hf⟩ := gb hf
      refine g_callS (As := [.long x3.toInt64, .long (1 : Int64), .long (4 : Int64)]) (rest := []) (n := 3) E (fX9_in_c k q4.2 x3.toInt64 (1 : Int64) (4 : Int64) q7 hq8) gX9_rounds_X9_in rfl rfl rfl (by decide +kernel) ⟨Nat.le_of_ble_eq_true rfl, Nat.le_of_ble_eq_true rfl⟩ rfl rfl (Nat.le_of_ble_eq_true rfl) dX9_rounds_26 ?_
      refine g_if_eq (tgt := 51) E dX9_rounds_29 (by decide) (fun c9 => ?_) (fun c9 => ?_)
      · have hf := gp hf c9
        refine g_ldc2 (v := (-1000000000000000002 : Int64)) E (by decide +kernel) dX9_rounds_51 ?_
        have hf := Option.some.inj hf
        subst hf
        exact g_lret E dX9_rounds_54
      · have hf := gn hf c9
        refine g_iload E 4 dX9_rounds_32 rfl ?_
        refine g_i2l E dX9_rounds_34 ?_
        refine g_lconst (v := (0 : Int64)) E dX9_rounds_35 (by decide) ?_
        refine g_lconst (v := (1 : Int64)) E dX9_rounds_36 (by decide) ?_
        obtain ⟨q10, hq11, hf⟩ := gb hf
        refine g_callS (As := [.long x4.toInt64, .long (0 : Int64), .long (1 : Int64)]) (rest := []) (n := 3) E (fX9_in_c k q7.2 x4.toInt64 (0 : Int64) (1 : Int64) q10 hq11) gX9_rounds_X9_in rfl rfl rfl (by decide +kernel) ⟨Nat.le_of_ble_eq_true rfl, Nat.le_of_ble_eq_true rfl⟩ rfl rfl (Nat.le_of_ble_eq_true rfl) dX9_rounds_37 ?_
        refine g_if_eq (tgt := 51) E dX9_rounds_40 (by decide) (fun c12 => ?_) (fun c12 => ?_)
        · have hf := gp hf c12
          refine g_ldc2 (v := (-1000000000000000002 : Int64)) E (by decide +kernel) dX9_rounds_51 ?_
          have hf := Option.some.inj hf
          subst hf
          exact g_lret E dX9_rounds_54
        · have hf := gn hf c12
          refine g_iload E 5 dX9_rounds_43 rfl ?_
          obtain ⟨q13, hq14, hf⟩ := gb hf
          refine g_callS (As := [.int x5]) (rest := []) (n := 1) E (fX9_isPart_c k q10.2 x5 q13 hq14) gX9_rounds_X9_isPart rfl rfl rfl (by decide +kernel) ⟨Nat.le_of_ble_eq_true rfl, Nat.le_of_ble_eq_true rfl⟩ rfl rfl (Nat.le_of_ble_eq_true rfl) dX9_rounds_45 ?_
          refine g_if_ne (tgt := 55) E dX9_rounds_48 (by decide) (fun c15 => ?_) (fun c15 => ?_)
          · have hf := gn hf c15
            refine g_aload_n E 0 dX9_rounds_55 rfl rfl ?_
            refine g_get (C := RX9) (T := TX9) (N := 20) (ci := 9) E 0 17 (.int (q13.2.2.1 3)) hi_X9_rounds_X9 (mwG0 _ _) rfl (by decide) hk_X9_rounds_118 rfl dX9_rounds_56 ?_
            refine g_if_ne (tgt := 66) E dX9_rounds_59 (by decide) (fun c16 => ?_) (fun c16 => ?_)
            · have hf := gn hf c16
              refine g_aload_n E 0 dX9_rounds_66 rfl rfl ?_
              refine g_iload_n E 1 dX9_rounds_67 rfl rfl ?_
              refine g_iload_n E 2 dX9_rounds_68 rfl rfl ?_
              obtain ⟨q17, hq18, hf⟩ := gb hf
              refine g_callV (C := RX9) (T := TX9) (N := 20) (ci := 9) (As := [.int x1, .int x2]) (rest := []) (n := 2) E 0 (fX9_allOf_c k q13.2 x1 x2 q17 hq18) gX9_rounds_X9_allOf rfl rfl rfl (by decide +kernel) ⟨Nat.le_of_ble_eq_true rfl, Nat.le_of_ble_eq_true rfl⟩ rfl rfl (Nat.le_of_ble_eq_true rfl) rfl (mwG0 _ _) dX9_rounds_69 ?_
              refine g_lstore E [(6, .long q17.1), (0, .ref (k.2.2.2.1 0)), (1, .int x1), (2, .int x2), (3, .int x3), (4, .int x4), (5, .int x5)] dX9_rounds_72 (by decide) rfl ?_
              refine g_lload E 0 dX9_rounds_74 rfl ?_
              refine g_aload_n E 1 dX9_rounds_76 rfl rfl ?_
              refine g_iload_n E 2 dX9_rounds_77 rfl rfl ?_
              refine g_iload_n E 3 dX9_rounds_78 rfl rfl ?_
              obtain ⟨q19, hq20, hf⟩ := gb hf
              refine g_callV (C := RX9) (T := TX9) (N := 20) (ci := 9) (As := [.int x1, .int x2]) (rest := [.long q17.1]) (n := 2) E 0 (fX9_takenOf_c k q17.2 x1 x2 q19 hq20) gX9_rounds_X9_takenOf rfl rfl rfl (by decide +kernel) ⟨Nat.le_of_ble_eq_true rfl, Nat.le_of_ble_eq_true rfl⟩ rfl rfl (Nat.le_of_ble_eq_true rfl) rfl (mwG0 _ _) dX9_rounds_79 ?_
              refine g_lsub E dX9_rounds_82 ?_
              refine g_lstore E [(8, .long (q17.1 - q19.1)), (6, .long q17.1), (0, .ref (k.2.2.2.1 0)), (1, .int x1), (2, .int x2), (3, .int x3), (4, .int x4), (5, .int x5)] dX9_rounds_83 (by decide) rfl ?_
              refine g_iload E 6 dX9_rounds_85 rfl ?_
              refine g_if_ne (tgt := 115) E dX9_rounds_87 (by decide) (fun c21 => ?_) (fun c21 => ?_)
              · have hf := gn hf c21
                refine g_lconst (v := (0 : Int64)) E dX9_rounds_115 (by decide) ?_
                refine g_lstore E [(10, .long (0 : Int64)), (8, .long (q17.1 - q19.1)), (6, .long q17.1), (0, .ref (k.2.2.2.1 0)), (1, .int x1), (2, .int x2), (3, .int x3), (4, .int x4), (5, .int x5)] dX9_rounds_116 (by decide) rfl ?_
                refine g_iconst (v := (0 : Int32)) E dX9_rounds_118 (by decide) ?_
                refine g_istore E [(12, .int (0 : Int32)), (10, .long (0 : Int64)), (8, .long (q17.1 - q19.1)), (6, .long q17.1), (0, .ref (k.2.2.2.1 0)), (1, .int x1), (2, .int x2), (3, .int x3), (4, .int x4), (5, .int x5)] dX9_rounds_119 (by decide) rfl ?_
                exact g_sub [4, 5, 6, 7, 9, 3, 2, 1, 0] rfl (fX9_rounds_v121 E gF q19.2 x1 x2 x3 x5 q17.1 (q17.1 - q19.1) (0 : Int64) (0 : Int32) r hf)
              · have hf := gp hf c21
                refine g_lload E 1 dX9_rounds_90 rfl ?_
                refine g_iload_n E 5 dX9_rounds_92 rfl rfl ?_
                obtain ⟨q22, hq23, hf⟩ := gb hf
                refine g_callS (As := [.long q17.1, .int x3]) (rest := []) (n := 2) E (fX9_power_c k q19.2 q17.1 x3 q22 hq23) gX9_rounds_X9_power rfl rfl rfl (by decide +kernel) ⟨Nat.le_of_ble_eq_true rfl, Nat.le_of_ble_eq_true rfl⟩ rfl rfl (Nat.le_of_ble_eq_true rfl) dX9_rounds_93 ?_
                refine g_lload E 0 dX9_rounds_96 rfl ?_
                refine g_iload_n E 5 dX9_rounds_98 rfl rfl ?_
                obtain ⟨q24, hq25, hf⟩ := gb hf
                refine g_callS (As := [.long (q17.1 - q19.1), .int x3]) (rest := [.long q22.1]) (n := 2) E (fX9_power_c k q22.2 (q17.1 - q19.1) x3 q24 hq25) gX9_rounds_X9_power rfl rfl rfl (by decide +kernel) ⟨Nat.le_of_ble_eq_true rfl, Nat.le_of_ble_eq_true rfl⟩ rfl rfl (Nat.le_of_ble_eq_true rfl) dX9_rounds_99 ?_
                refine g_lsub E dX9_rounds_102 ?_
                refine g_lload E 1 dX9_rounds_103 rfl ?_
                refine g_iload_n E 5 dX9_rounds_105 rfl rfl ?_
                obtain ⟨q26, hq27, hf⟩ := gb hf
                refine g_callS (As := [.long q17.1, .int x3]) (rest := [.long (q22.1 - q24.1)]) (n := 2) E (fX9_power_c k q24.2 q17.1 x3 q26 hq27) gX9_rounds_X9_power rfl rfl rfl (by decide +kernel) ⟨Nat.le_of_ble_eq_true rfl, Nat.le_of_ble_eq_true rfl⟩ rfl rfl (Nat.le_of_ble_eq_true rfl) dX9_rounds_106 ?_
                refine g_iload E 7 dX9_rounds_109 rfl ?_
                obtain ⟨q28, hq29, hf⟩ := gb hf
                refine g_callS (As := [.long (q22.1 - q24.1), .long q26.1, .int x5]) (rest := []) (n := 3) E (fX9_lowest_c k q26.2 (q22.1 - q24.1) q26.1 x5 q28 hq29) gX9_rounds_X9_lowest rfl rfl rfl (by decide +kernel) ⟨Nat.le_of_ble_eq_true rfl, Nat.le_of_ble_eq_true rfl⟩ rfl rfl (Nat.le_of_ble_eq_true rfl) dX9_rounds_111 ?_
                have hf := Option.some.inj hf
                subst hf
                exact g_lret E dX9_rounds_114
            · have hf := gp hf c16
              refine g_ldc2 (v := (-1000000000000000003 : Int64)) E (by decide +kernel) dX9_rounds_62 ?_
              have hf := Option.some.inj hf
              subst hf
              exact g_lret E dX9_rounds_65
          · have hf := gp hf c15
            refine g_ldc2 (v := (-1000000000000000002 : Int64)) E (by decide +kernel) dX9_rounds_51 ?_
            have hf := Option.some.inj hf
            subst hf
            exact g_lret E dX9_rounds_54
  · have hf := gp hf c3
    refine g_ldc2 (v := (-1000000000000000001 : Int64)) E (by decide +kernel) dX9_rounds_8 ?_
    have hf := Option.some.inj hf
    subst hf
    exact g_lret E dX9_rounds_11
