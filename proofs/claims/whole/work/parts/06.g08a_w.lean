theorem hi_X9_takenOf_X9 : ∀ w ∈ wsX90, w ∈ wsX9_takenOf := by decide +kernel
theorem hk_X9_takenOf_63 : Cond.fieldLink RX9 63 "PaperMarksModel" "judges" "I" ∈ wsX9_takenOf := by decide +kernel
theorem hk_X9_takenOf_52 : Cond.fieldLink RX9 52 "PaperMarksModel" "given" "[I" ∈ wsX9_takenOf := by decide +kernel
theorem hk_X9_takenOf_22 : Cond.fieldLink RX9 22 "PaperMarksModel" "worths" "[I" ∈ wsX9_takenOf := by decide +kernel
def rm_fX9_takenOf : Room := { frames := 2, cells := 0, slots := 0, locals := 50 }
set_option maxHeartbeats 4000000 in
set_option maxRecDepth 100000 in
theorem fX9_takenOf_w144 {k : gK} {X : gX} (E : gE k X cX9_takenOf RX9 wsX9_takenOf 13 (some .long) rm_fX9_takenOf) (rc54 : St → Int32 → Int32 → Int32 → Int64 → Int32 → Option (Int64 × St)) (hrc54 : ∀ (σ : St) (x1 : Int32) (x3 : Int32) (x4 : Int32) (x5 : Int64) (x7 : Int32) (r : Int64 × St), rc54 σ x1 x3 x4 x5 x7 = some r → G k X 13 (some (.long r.1)) (mw k.2.2.2 r.2) (mw k.2.2.2 σ) [(0, .ref (k.2.2.2.1 0)), (1, .int x1), (3, .int x3), (4, .int x4), (5, .long x5), (7, .int x7)] [] 54) (rc75 : St → Int32 → Int32 → Int32 → Int64 → Int32 → Int64 → Int32 → Int32 → Option (Int64 × St)) (hrc75 : ∀ (σ : St) (x1 : Int32) (x3 : Int32) (x4 : Int32) (x5 : Int64) (x7 : Int32) (x8 : Int64) (x10 : Int32) (x11 : Int32) (r : Int64 × St), rc75 σ x1 x3 x4 x5 x7 x8 x10 x11 = some r → G k X 13 (some (.long r.1)) (mw k.2.2.2 r.2) (mw k.2.2.2 σ) [(0, .ref (k.2.2.2.1 0)), (1, .int x1), (3, .int x3), (4, .int x4), (5, .long x5), (7, .int x7), (8, .long x8), (10, .int x10), (11, .int x11)] [] 75) (σ : St) (x1 : Int32) (x3 : Int32) (x4 : Int32) (x5 : Int64) (x7 : Int32) (x8 : Int64) (x10 : Int32) (x11 : Int32) (r : Int64 × St) (hf : fX9_takenOf_b144 rc54 rc75 σ x1 x3 x4 x5 x7 x8 x10 x11 = some r) : G k X 13 (some (.long r.1)) (mw k.2.2.2 r.2) (mw k.2.2.2 σ) [(0, .ref (k.2.2.2.1 0)), (1, .int x1), (3, .int x3), (4, .int x4), (5, .long x5), (7, .int x7), (8, .long x8), (10, .int x10), (11, .int x11)] [] 144 := by
  unfold fX9_takenOf_b144 at hf
  refine g_iinc E 8 [(11, .int (x11 + (1 : Int32))), (0, .ref (k.2.2.2.1 0)), (1, .int x1), (3, .int x3), (4, .int x4), (5, .long x5), (7, .int x7), (8, .long x8), (10, .int x10)] (x11 + (1 : Int32)) dX9_takenOf_144 rfl (by rfl) (by decide) rfl ?_
  refine g_goto (tgt := 75) E dX9_takenOf_147 (by decide) ?_
  exact g_sub [1, 2, 3, 4, 5, 6, 7, 8, 0] rfl (hrc75 σ x1 x3 x4 x5 x7 x8 x10 (x11 + (1 : Int32)) r hf)
set_option maxHeartbeats 4000000 in
set_option maxRecDepth 100000 in
theorem fX9_takenOf_w75 {k : gK} {X : gX} (E : gE k X cX9_takenOf RX9 wsX9_takenOf 13 (some .long) rm_fX9_takenOf) (rc54 : St → Int32 → Int32 → Int32 → Int64 → Int32 → Option (Int64 × St)) (hrc54 : ∀ (σ : St) (x1 : Int32) (x3 : Int32) (x4 : Int32) (x5 : Int64) (x7 : Int32) (r : Int64 × St), rc54 σ x1 x3 x4 x5 x7 = some r → G k X 13 (some (.long r.1)) (mw k.2.2.2 r.2) (mw k.2.2.2 σ) [(0, .ref (k.2.2.2.1 0)), (1, .int x1), (3, .int x3), (4, .int x4), (5, .long x5), (7, .int x7)] [] 54) (rc75 : St → Int32 → Int32 → Int32 → Int64 → Int32 → Int64 → Int32 → Int32 → Option (Int64 × St)) (hrc75 : ∀ (σ : St) (x1 : Int32) (x3 : Int32) (x4 : Int32) (x5 : Int64) (x7 : Int32) (x8 : Int64) (x10 : Int32) (x11 : Int32) (r : Int64 × St), rc75 σ x1 x3 x4 x5 x7 x8 x10 x11 = some r → G k X 13 (some (.long r.1)) (mw k.2.2.2 r.2) (mw k.2.2.2 σ) [(0, .ref (k.2.2.2.1 0)), (1, .int x1), (3, .int x3), (4, .int x4), (5, .long x5), (7, .int x7), (8, .long x8), (10, .int x10), (11, .int x11)] [] 75) (σ : St) (x1 : Int32) (x3 : Int32) (x4 : Int32) (x5 : Int64) (x7 : Int32) (x8 : Int64) (x10 : Int32) (x11 : Int32) (r : Int64 × St) (hf : fX9_takenOf_b75 rc54 rc75 σ x1 x3 x4 x5 x7 x8 x10 x11 = some r) : G k X 13 (some (.long r.1)) (mw k.2.2.2 r.2) (mw k.2.2.2 σ) [(0, .ref (k.2.2.2.1 0)), (1, .int x1), (3, .int x3), (4, .int x4), (5, .long x5), (7, .int x7), (8, .long x8), (10, .int x10), (11, .int x11)] [] 75 := by
  unfold fX9_takenOf_b75 at hf
  refine g_iload E 8 dX9_takenOf_75 rfl ?_
  refine g_aload_n E 0 dX9_takenOf_77 rfl rfl ?_
  refine g_get (C := RX9) (T := TX9) (N := 20) (ci := 9) E 0 3 (.int (σ.2.1 0)) hi_X9_takenOf_X9 (mwG0 _ _) rfl (by decide) hk_X9_takenOf_63 rfl dX9_takenOf_78 ?_
  refine g_icmp_ge (tgt := 150) E dX9_takenOf_81 (by decide) (fun c1 => ?_) (fun c1 => ?_)
  · have hf := gp hf c1
    refine g_lload E 4 dX9_takenOf_150 rfl ?_
    refine g_lload E 6 dX9_takenOf_152 rfl ?_
    refine g_aload_n E 0 dX9_takenOf_154 rfl rfl ?_
    obtain ⟨q2, hq3, hf⟩ := gb hf
    refine g_callV (C := RX9) (T := TX9) (N := 20) (ci := 9) (As := []) (rest := [.long x8, .long x5]) (n := 0) E 0 (fX9_yesOf_c k σ  q2 hq3) gX9_takenOf_X9_yesOf rfl rfl rfl (by decide +kernel) ⟨Nat.le_of_ble_eq_true rfl, Nat.le_of_ble_eq_true rfl⟩ rfl rfl (Nat.le_of_ble_eq_true rfl) rfl (mwG0 _ _) dX9_takenOf_155 ?_
    refine g_i2l E dX9_takenOf_158 ?_
    refine g_lmul E dX9_takenOf_159 ?_
    refine g_ladd E dX9_takenOf_160 ?_
    refine g_lstore E [(5, .long (x5 + (x8 * q2.1.toInt64))), (0, .ref (k.2.2.2.1 0)), (1, .int x1), (3, .int x3), (4, .int x4), (7, .int x7), (8, .long x8), (10, .int x10), (11, .int x11)] dX9_takenOf_161 (by decide) rfl ?_
    refine g_iinc E 5 [(7, .int (x7 + (1 : Int32))), (5, .long (x5 + (x8 * q2.1.toInt64))), (0, .ref (k.2.2.2.1 0)), (1, .int x1), (3, .int x3), (4, .int x4), (8, .long x8), (10, .int x10), (11, .int x11)] (x7 + (1 : Int32)) dX9_takenOf_163 rfl (by rfl) (by decide) rfl ?_
    refine g_goto (tgt := 54) E dX9_takenOf_166 (by decide) ?_
    exact g_sub [2, 3, 4, 5, 1, 0] rfl (hrc54 q2.2 x1 x3 x4 (x5 + (x8 * q2.1.toInt64)) (x7 + (1 : Int32)) r hf)
  · have hf := gn hf c1
    refine g_iload_n E 2 dX9_takenOf_84 rfl rfl ?_
    refine g_iload E 8 dX9_takenOf_85 rfl ?_
    refine g_ishr E dX9_takenOf_87 ?_
    refine g_iconst (v := (1 : Int32)) E dX9_takenOf_88 (by decide) ?_
    refine g_iand E dX9_takenOf_89 ?_
    refine g_iconst (v := (1 : Int32)) E dX9_takenOf_90 (by decide) ?_
    refine g_icmp_ne (tgt := 144) E dX9_takenOf_91 (by decide) (fun c4 => ?_) (fun c4 => ?_)
    · have hf := gn hf c4
      exact fX9_takenOf_w144 E rc54 hrc54 rc75 hrc75 σ x1 x3 x4 x5 x7 x8 x10 x11 r hf
    · have hf := gp hf c4
      refine g_iload E 7 dX9_takenOf_94 rfl ?_
      refine g_iconst (v := (3 : Int32)) E dX9_takenOf_96 (by decide) ?_
      refine g_irem E (by decide) dX9_takenOf_97 ?_
      refine g_istore E [(12, .int (x10 - x10 / (3 : Int32) * (3 : Int32))), (0, .ref (k.2.2.2.1 0)), (1, .int x1), (3, .int x3), (4, .int x4), (5, .long x5), (7, .int x7), (8, .long x8), (10, .int x10), (11, .int x11)] dX9_takenOf_98 (by decide) rfl ?_
      refine g_iload E 8 dX9_takenOf_100 rfl ?_
      refine g_iconst (v := (3 : Int32)) E dX9_takenOf_102 (by decide) ?_
      refine g_idiv E (by decide) dX9_takenOf_103 ?_
      refine g_istore E [(10, .int (x10 / (3 : Int32))), (12, .int (x10 - x10 / (3 : Int32) * (3 : Int32))), (0, .ref (k.2.2.2.1 0)), (1, .int x1), (3, .int x3), (4, .int x4), (5, .long x5), (7, .int x7), (8, .long x8), (11, .int x11)] dX9_takenOf_104 (by decide) rfl ?_
      refine g_lload E 8 dX9_takenOf_106 rfl ?_
      refine g_aload_n E 2 dX9_takenOf_108 rfl rfl ?_
      refine g_iload E 9 dX9_takenOf_109 rfl ?_
      refine g_iload E 1 dX9_takenOf_111 rfl ?_
      obtain ⟨q5, hq6, hf⟩ := gb hf
      refine g_callV (C := RX9) (T := TX9) (N := 20) (ci := 9) (As := [.int x11, .int (x10 - x10 / (3 : Int32) * (3 : Int32))]) (rest := [.long x8]) (n := 2) E 0 (fX9_quarters_c k σ x11 ((x10 - x10 / (3 : Int32) * (3 : Int32))) q5 hq6) gX9_takenOf_X9_quarters rfl rfl rfl (by decide +kernel) ⟨Nat.le_of_ble_eq_true rfl, Nat.le_of_ble_eq_true rfl⟩ rfl rfl (Nat.le_of_ble_eq_true rfl) rfl (mwG0 _ _) dX9_takenOf_113 ?_
      refine g_i2l E dX9_takenOf_116 ?_
      refine g_lmul E dX9_takenOf_117 ?_
      refine g_lstore E [(8, .long (x8 * q5.1.toInt64)), (10, .int (x10 / (3 : Int32))), (12, .int (x10 - x10 / (3 : Int32) * (3 : Int32))), (0, .ref (k.2.2.2.1 0)), (1, .int x1), (3, .int x3), (4, .int x4), (5, .long x5), (7, .int x7), (11, .int x11)] dX9_takenOf_118 (by decide) rfl ?_
      refine g_aload_n E 3 dX9_takenOf_120 rfl rfl ?_
      refine g_get (C := RX9) (T := TX9) (N := 20) (ci := 9) E 0 18 (.ref (k.2.2.2.1 15)) hi_X9_takenOf_X9 (mwG0 _ _) rfl (by decide) hk_X9_takenOf_52 rfl dX9_takenOf_121 ?_
      refine g_aload_n E 3 dX9_takenOf_124 rfl rfl ?_
      refine g_iload E 9 dX9_takenOf_125 rfl ?_
      refine g_iload_n E 4 dX9_takenOf_127 rfl rfl ?_
      refine g_aload_n E 3 dX9_takenOf_128 rfl rfl ?_
      refine g_get (C := RX9) (T := TX9) (N := 20) (ci := 9) E 0 5 (.ref (k.2.2.2.1 5)) hi_X9_takenOf_X9 (mwG0 _ _) rfl (by decide) hk_X9_takenOf_22 rfl dX9_takenOf_129 ?_
      refine g_iload_n E 4 dX9_takenOf_132 rfl rfl ?_
      obtain ⟨hi7, hf⟩ := gd hf
      refine g_iald E 5 (q5.2.1 5) (mwG5 _ _) hi7 dX9_takenOf_133 ?_
      refine g_iload E 2 dX9_takenOf_134 rfl ?_
      obtain ⟨q8, hq9, hf⟩ := gb hf
      refine g_callV (C := RX9) (T := TX9) (N := 20) (ci := 9) (As := [.int x11, .int x1, .int (q5.2.1 5 x1.toNatClampNeg), .int (x10 - x10 / (3 : Int32) * (3 : Int32))]) (rest := [.ref (k.2.2.2.1 15)]) (n := 4) E 0 (fX9_markOf_c k q5.2 x11 x1 (q5.2.1 5 x1.toNatClampNeg) ((x10 - x10 / (3 : Int32) * (3 : Int32))) q8 hq9) gX9_takenOf_X9_markOf rfl rfl rfl (by decide +kernel) ⟨Nat.le_of_ble_eq_true rfl, Nat.le_of_ble_eq_true rfl⟩ rfl rfl (Nat.le_of_ble_eq_true rfl) rfl (mwG0 _ _) dX9_takenOf_136 ?_
      refine g_dup2 E dX9_takenOf_139 rfl rfl ?_
      obtain ⟨hi10, hf⟩ := gd hf
      refine g_iald E 15 (q8.2.1 15) (mwG15 _ _) hi10 dX9_takenOf_140 ?_
      refine g_iconst (v := (1 : Int32)) E dX9_takenOf_141 (by decide) ?_
      refine g_iadd E dX9_takenOf_142 ?_
      obtain ⟨hi11, hf⟩ := gd hf
      refine g_iast E 15 (mw k.2.2.2 (uA q8.2 15 q8.1.toNatClampNeg (((q8.2.1 15 q8.1.toNatClampNeg) + (1 : Int32))))) (q8.2.1 15) (mwG15 _ _) hi11 (mwA15 _ _ _ _) dX9_takenOf_143 ?_
      exact g_sub [3, 4, 5, 6, 7, 8, 0, 1, 9] rfl (fX9_takenOf_w144 E rc54 hrc54 rc75 hrc75 (uA q8.2 15 q8.1.toNatClampNeg (((q8.2.1 15 q8.1.toNatClampNeg) + (1 : Int32)))) x1 x3 x4 x5 x7 (x8 * q5.1.toInt64) (x10 / (3 : Int32)) x11 r hf)
theorem fX9_takenOf_v75 {k : gK} {X : gX} (E : gE k X cX9_takenOf RX9 wsX9_takenOf 13 (some .long) rm_fX9_takenOf) (rc54 : St → Int32 → Int32 → Int32 → Int64 → Int32 → Option (Int64 × St)) (hrc54 : ∀ (σ : St) (x1 : Int32) (x3 : Int32) (x4 : Int32) (x5 : Int64) (x7 : Int32) (r : Int64 × St), rc54 σ x1 x3 x4 x5 x7 = some r → G k X 13 (some (.long r.1)) (mw k.2.2.2 r.2) (mw k.2.2.2 σ) [(0, .ref (k.2.2.2.1 0)), (1, .int x1), (3, .int x3), (4, .int x4), (5, .long x5), (7, .int x7)] [] 54) : ∀ (n : Nat) (σ : St) (x1 : Int32) (x3 : Int32) (x4 : Int32) (x5 : Int64) (x7 : Int32) (x8 : Int64) (x10 : Int32) (x11 : Int32) (r : Int64 × St), fX9_takenOf_l75 rc54 n σ x1 x3 x4 x5 x7 x8 x10 x11 = some r → G k X 13 (some (.long r.1)) (mw k.2.2.2 r.2) (mw k.2.2.2 σ) [(0, .ref (k.2.2.2.1 0)), (1, .int x1), (3, .int x3), (4, .int x4), (5, .long x5), (7, .int x7), (8, .long x8), (10, .int x10), (11, .int x11)] [] 75 := by
  intro n
  induction n with
  | zero => intro σ x1 x3 x4 x5 x7 x8 x10 x11 r hf; cases hf
  | succ n ih => intro σ x1 x3 x4 x5 x7 x8 x10 x11 r hf; exact fX9_takenOf_w75 E rc54 hrc54 (fX9_takenOf_l75 rc54 n) ih σ x1 x3 x4 x5 x7 x8 x10 x11 r hf
set_option maxHeartbeats 4000000 in
set_option maxRecDepth 100000 in
theorem fX9_takenOf_w54 {k : gK} {X : gX} (E : gE k X cX9_takenOf RX9 wsX9_takenOf 13 (some .long) rm_fX9_takenOf) (rc54 : St → Int32 → Int32 → Int32 → Int64 → Int32 → Option (Int64 × St)) (hrc54 : ∀ (σ : St) (x1 : Int32) (x3 : Int32) (x4 : Int32) (x5 : Int64) (x7 : Int32) (r : Int64 × St), rc54 σ x1 x3 x4 x5 x7 = some r → G k X 13 (some (.long r.1)) (mw k.2.2.2 r.2) (mw k.2.2.2 σ) [(0, .ref (k.2.2.2.1 0)), (1, .int x1), (3, .int x3), (4, .int x4), (5, .long x5), (7, .int x7)] [] 54) (σ : St) (x1 : Int32) (x3 : Int32) (x4 : Int32) (x5 : Int64) (x7 : Int32) (r : Int64 × St) (hf : fX9_takenOf_b54 rc54 σ x1 x3 x4 x5 x7 = some r) : G k X 13 (some (.long r.1)) (mw k.2.2.2 r.2) (mw k.2.2.2 σ) [(0, .ref (k.2.2.2.1 0)), (1, .int x1), (3, .int x3), (4, .int x4), (5, .long x5), (7, .int x7)] [] 54 := by
  unfold fX9_takenOf_b54 at hf
  refine g_iload E 5 dX9_takenOf_54 rfl ?_
  refine g_iload E 3 dX9_takenOf_56 rfl ?_
  refine g_icmp_ge (tgt := 169) E dX9_takenOf_58 (by decide) (fun c1 => ?_) (fun c1 => ?_)
  · have hf := gp hf c1
    refine g_lload E 4 dX9_takenOf_169 rfl ?_
    have hf := Option.some.inj hf
    subst hf
    exact g_lret E dX9_takenOf_171
  · have hf := gn hf c1
    refine g_lconst (v := (1 : Int64)) E dX9_takenOf_61 (by decide) ?_
    refine g_lstore E [(8, .long (1 : Int64)), (0, .ref (k.2.2.2.1 0)), (1, .int x1), (3, .int x3), (4, .int x4), (5, .long x5), (7, .int x7)] dX9_takenOf_62 (by decide) rfl ?_
    refine g_iload E 6 dX9_takenOf_64 rfl ?_
    refine g_istore E [(10, .int x7), (8, .long (1 : Int64)), (0, .ref (k.2.2.2.1 0)), (1, .int x1), (3, .int x3), (4, .int x4), (5, .long x5), (7, .int x7)] dX9_takenOf_66 (by decide) rfl ?_
    refine g_aload_n E 2 dX9_takenOf_68 rfl rfl ?_
    obtain ⟨q2, hq3, hf⟩ := gb hf
    refine g_callV (C := RX9) (T := TX9) (N := 20) (ci := 9) (As := []) (rest := []) (n := 0) E 0 (fX9_clearGiven_c k σ  q2 hq3) gX9_takenOf_X9_clearGiven rfl rfl rfl (by decide +kernel) ⟨Nat.le_of_ble_eq_true rfl, Nat.le_of_ble_eq_true rfl⟩ rfl rfl (Nat.le_of_ble_eq_true rfl) rfl (mwG0 _ _) dX9_takenOf_69 ?_
    refine g_iconst (v := (0 : Int32)) E dX9_takenOf_72 (by decide) ?_
    refine g_istore E [(11, .int (0 : Int32)), (10, .int x7), (8, .long (1 : Int64)), (0, .ref (k.2.2.2.1 0)), (1, .int x1), (3, .int x3), (4, .int x4), (5, .long x5), (7, .int x7)] dX9_takenOf_73 (by decide) rfl ?_
    exact g_sub [3, 4, 5, 6, 7, 8, 2, 1, 0] rfl (fX9_takenOf_v75 E rc54 hrc54 gF q2.2 x1 x3 x4 x5 x7 (1 : Int64) x7 (0 : Int32) r hf)
theorem fX9_takenOf_v54 {k : gK} {X : gX} (E : gE k X cX9_takenOf RX9 wsX9_takenOf 13 (some .long) rm_fX9_takenOf) : ∀ (n : Nat) (σ : St) (x1 : Int32) (x3 : Int32) (x4 : Int32) (x5 : Int64) (x7 : Int32) (r : Int64 × St), fX9_takenOf_l54 n σ x1 x3 x4 x5 x7 = some r → G k X 13 (some (.long r.1)) (mw k.2.2.2 r.2) (mw k.2.2.2 σ) [(0, .ref (k.2.2.2.1 0)), (1, .int x1), (3, .int x3), (4, .int x4), (5, .long x5), (7, .int x7)] [] 54 := by
  intro n
  induction n with
  | zero => intro σ x1 x3 x4 x5 x7 r hf; cases hf
  | succ n ih => intro σ x1 x3 x4 x5 x7 r hf; exact fX9_takenOf_w54 E (fX9_takenOf_l54 n) ih σ x1 x3 x4 x5 x7 r hf
set_option maxHeartbeats 4000000 in
set_option maxRecDepth 100000 in
theorem fX9_takenOf_w39 {k : gK} {X : gX} (E : gE k X cX9_takenOf RX9 wsX9_takenOf 13 (some .long) rm_fX9_takenOf) (rc13 : St → Int32 → Int32 → Int32 → Int32 → Option (Int64 × St)) (hrc13 : ∀ (σ : St) (x1 : Int32) (x3 : Int32) (x4 : Int32) (x5 : Int32) (r : Int64 × St), rc13 σ x1 x3 x4 x5 = some r → G k X 13 (some (.long r.1)) (mw k.2.2.2 r.2) (mw k.2.2.2 σ) [(0, .ref (k.2.2.2.1 0)), (1, .int x1), (3, .int x3), (4, .int x4), (5, .int x5)] [] 13) (σ : St) (x1 : Int32) (x3 : Int32) (x5 : Int32) (t0 : Int32) (t1 : Int32) (r : Int64 × St) (hf : fX9_takenOf_b39 rc13 σ x1 x3 x5 t0 t1 = some r) : G k X 13 (some (.long r.1)) (mw k.2.2.2 r.2) (mw k.2.2.2 σ) [(0, .ref (k.2.2.2.1 0)), (1, .int x1), (3, .int x3), (5, .int x5)] [.int t1, .int t0] 39 := by
  unfold fX9_takenOf_b39 at hf
  refine g_imul E dX9_takenOf_39 ?_
  refine g_istore E [(4, .int (t0 * t1)), (0, .ref (k.2.2.2.1 0)), (1, .int x1), (3, .int x3), (5, .int x5)] dX9_takenOf_40 (by decide) rfl ?_
  refine g_iinc E 4 [(5, .int (x5 + (1 : Int32))), (4, .int (t0 * t1)), (0, .ref (k.2.2.2.1 0)), (1, .int x1), (3, .int x3)] (x5 + (1 : Int32)) dX9_takenOf_42 rfl (by rfl) (by decide) rfl ?_
  refine g_goto (tgt := 13) E dX9_takenOf_45 (by decide) ?_
  exact g_sub [2, 3, 4, 1, 0] rfl (hrc13 σ x1 x3 (t0 * t1) (x5 + (1 : Int32)) r hf)
set_option maxHeartbeats 4000000 in
set_option maxRecDepth 100000 in
theorem fX9_takenOf_w13 {k : gK} {X : gX} (E : gE k X cX9_takenOf RX9 wsX9_takenOf 13 (some .long) rm_fX9_takenOf) (rc13 : St → Int32 → Int32 → Int32 → Int32 → Option (Int64 × St)) (hrc13 : ∀ (σ : St) (x1 : Int32) (x3 : Int32) (x4 : Int32) (x5 : Int32) (r : Int64 × St), rc13 σ x1 x3 x4 x5 = some r → G k X 13 (some (.long r.1)) (mw k.2.2.2 r.2) (mw k.2.2.2 σ) [(0, .ref (k.2.2.2.1 0)), (1, .int x1), (3, .int x3), (4, .int x4), (5, .int x5)] [] 13) (σ : St) (x1 : Int32) (x3 : Int32) (x4 : Int32) (x5 : Int32) (r : Int64 × St) (hf : fX9_takenOf_b13 rc13 σ x1 x3 x4 x5 = some r) : G k X 13 (some (.long r.1)) (mw k.2.2.2 r.2) (mw k.2.2.2 σ) [(0, .ref (k.2.2.2.1 0)), (1, .int x1), (3, .int x3), (4, .int x4), (5, .int x5)] [] 13 := by
  unfold fX9_takenOf_b13 at hf
  refine g_iload E 4 dX9_takenOf_13 rfl ?_
  refine g_aload_n E 0 dX9_takenOf_15 rfl rfl ?_
  refine g_get (C := RX9) (T := TX9) (N := 20) (ci := 9) E 0 3 (.int (σ.2.1 0)) hi_X9_takenOf_X9 (mwG0 _ _) rfl (by decide) hk_X9_takenOf_63 rfl dX9_takenOf_16 ?_
  refine g_icmp_ge (tgt := 48) E dX9_takenOf_19 (by decide) (fun c1 => ?_) (fun c1 => ?_)
  · have hf := gp hf c1
    refine g_lconst (v := (0 : Int64)) E dX9_takenOf_48 (by decide) ?_
    refine g_lstore E [(5, .long (0 : Int64)), (0, .ref (k.2.2.2.1 0)), (1, .int x1), (3, .int x3), (4, .int x4)] dX9_takenOf_49 (by decide) rfl ?_
    refine g_iconst (v := (0 : Int32)) E dX9_takenOf_51 (by decide) ?_
    refine g_istore E [(7, .int (0 : Int32)), (5, .long (0 : Int64)), (0, .ref (k.2.2.2.1 0)), (1, .int x1), (3, .int x3), (4, .int x4)] dX9_takenOf_52 (by decide) rfl ?_
    exact g_sub [2, 3, 4, 5, 1, 0] rfl (fX9_takenOf_v54 E gF σ x1 x3 x4 (0 : Int64) (0 : Int32) r hf)
  · have hf := gn hf c1
    refine g_iload E 3 dX9_takenOf_22 rfl ?_
    refine g_iload_n E 2 dX9_takenOf_24 rfl rfl ?_
    refine g_iload E 4 dX9_takenOf_25 rfl ?_
    refine g_ishr E dX9_takenOf_27 ?_
    refine g_iconst (v := (1 : Int32)) E dX9_takenOf_28 (by decide) ?_
    refine g_iand E dX9_takenOf_29 ?_
    refine g_iconst (v := (1 : Int32)) E dX9_takenOf_30 (by decide) ?_
    refine g_icmp_ne (tgt := 38) E dX9_takenOf_31 (by decide) (fun c2 => ?_) (fun c2 => ?_)
    · have hf := gn hf c2
      refine g_iconst (v := (1 : Int32)) E dX9_takenOf_38 (by decide) ?_
      exact g_sub [0, 1, 2, 4] rfl (fX9_takenOf_w39 E rc13 hrc13 σ x1 x3 x5 x4 (1 : Int32) r hf)
    · have hf := gp hf c2
      refine g_iconst (v := (3 : Int32)) E dX9_takenOf_34 (by decide) ?_
      refine g_goto (tgt := 39) E dX9_takenOf_35 (by decide) ?_
      exact g_sub [0, 1, 2, 4] rfl (fX9_takenOf_w39 E rc13 hrc13 σ x1 x3 x5 x4 (3 : Int32) r hf)
theorem fX9_takenOf_v13 {k : gK} {X : gX} (E : gE k X cX9_takenOf RX9 wsX9_takenOf 13 (some .long) rm_fX9_takenOf) : ∀ (n : Nat) (σ : St) (x1 : Int32) (x3 : Int32) (x4 : Int32) (x5 : Int32) (r : Int64 × St), fX9_takenOf_l13 n σ x1 x3 x4 x5 = some r → G k X 13 (some (.long r.1)) (mw k.2.2.2 r.2) (mw k.2.2.2 σ) [(0, .ref (k.2.2.2.1 0)), (1, .int x1), (3, .int x3), (4, .int x4), (5, .int x5)] [] 13 := by
  intro n
  induction n with
  | zero => intro σ x1 x3 x4 x5 r hf; cases hf
  | succ n ih => intro σ x1 x3 x4 x5 r hf; exact fX9_takenOf_w13 E (fX9_takenOf_l13 n) ih σ x1 x3 x4 x5 r hf
set_option maxHeartbeats 4000000 in
set_option maxRecDepth 100000 in
theorem fX9_takenOf_c (k : gK) (σ : St) (x1 : Int32) (x2 : Int32) (r : Int64 × St) (hf : fX9_takenOf σ x1 x2 = some r) : MC k yX9_takenOf wsX9_takenOf rm_fX9_takenOf [.ref (k.2.2.2.1 0), .int x1, .int x2] (mw k.2.2.2 σ) (some (.long r.1)) (mw k.2.2.2 r.2) := by
  refine MC_of (cc := cX9_takenOf) (maxL := 13) (ret := (some .long)) (own := RX9) (lvs := [(0, .ref (k.2.2.2.1 0)), (1, .int x1), (2, .int x2)]) (by decide) rfl rfl (Nat.le_of_ble_eq_true rfl) rfl (fun X E => ?_)
  unfold fX9_takenOf at hf
  refine g_aload_n E 0 dX9_takenOf_0 rfl rfl ?_
  refine g_iload_n E 1 dX9_takenOf_1 rfl rfl ?_
  refine g_iload_n E 2 dX9_takenOf_2 rfl rfl ?_
  obtain ⟨q1, hq2, hf⟩ := gb hf
  refine g_callV (C := RX9) (T := TX9) (N := 20) (ci := 9) (As := [.int x1, .int x2]) (rest := []) (n := 2) E 0 (fX9_without_c k σ x1 x2 q1 hq2) gX9_takenOf_X9_without rfl rfl rfl (by decide +kernel) ⟨Nat.le_of_ble_eq_true rfl, Nat.le_of_ble_eq_true rfl⟩ rfl rfl (Nat.le_of_ble_eq_true rfl) rfl (mwG0 _ _) dX9_takenOf_3 ?_
  refine g_istore_n E [(3, .int q1.1), (0, .ref (k.2.2.2.1 0)), (1, .int x1), (2, .int x2)] dX9_takenOf_6 rfl (by decide) rfl ?_
  refine g_iconst (v := (1 : Int32)) E dX9_takenOf_7 (by decide) ?_
  refine g_istore E [(4, .int (1 : Int32)), (3, .int q1.1), (0, .ref (k.2.2.2.1 0)), (1, .int x1), (2, .int x2)] dX9_takenOf_8 (by decide) rfl ?_
  refine g_iconst (v := (0 : Int32)) E dX9_takenOf_10 (by decide) ?_
  refine g_istore E [(5, .int (0 : Int32)), (4, .int (1 : Int32)), (3, .int q1.1), (0, .ref (k.2.2.2.1 0)), (1, .int x1), (2, .int x2)] dX9_takenOf_11 (by decide) rfl ?_
  exact g_sub [3, 4, 2, 1, 0] rfl (fX9_takenOf_v13 E gF q1.2 x1 q1.1 (1 : Int32) (0 : Int32) r hf)
