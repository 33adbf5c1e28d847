theorem hi_X9_joinedOf_X9 : ∀ w ∈ wsX90, w ∈ wsX9_joinedOf := by decide +kernel
theorem hk_X9_joinedOf_63 : Cond.fieldLink RX9 63 "PaperMarksModel" "judges" "I" ∈ wsX9_joinedOf := by decide +kernel
theorem hk_X9_joinedOf_34 : Cond.fieldLink RX9 34 "PaperMarksModel" "marks" "[I" ∈ wsX9_joinedOf := by decide +kernel
theorem hk_X9_joinedOf_67 : Cond.fieldLink RX9 67 "PaperMarksModel" "papers" "I" ∈ wsX9_joinedOf := by decide +kernel
def rm_fX9_joinedOf : Room := { frames := 1, cells := 0, slots := 0, locals := 21 }
set_option maxHeartbeats 4000000 in
set_option maxRecDepth 100000 in
theorem fX9_joinedOf_w125 {k : gK} {X : gX} (E : gE k X cX9_joinedOf RX9 wsX9_joinedOf 7 (some .int) rm_fX9_joinedOf) (rc43 : St → Int32 → Int32 → Option (Int32 × St)) (hrc43 : ∀ (σ : St) (x2 : Int32) (x3 : Int32) (r : Int32 × St), rc43 σ x2 x3 = some r → G k X 7 (some (.int r.1)) (mw k.2.2.2 r.2) (mw k.2.2.2 σ) [(0, .ref (k.2.2.2.1 0)), (2, .int x2), (3, .int x3)] [] 43) (rc53 : St → Int32 → Int32 → Int32 → Option (Int32 × St)) (hrc53 : ∀ (σ : St) (x2 : Int32) (x3 : Int32) (x4 : Int32) (r : Int32 × St), rc53 σ x2 x3 x4 = some r → G k X 7 (some (.int r.1)) (mw k.2.2.2 r.2) (mw k.2.2.2 σ) [(0, .ref (k.2.2.2.1 0)), (2, .int x2), (3, .int x3), (4, .int x4)] [] 53) (σ : St) (x3 : Int32) (x4 : Int32) (t0 : Int32) (t1 : Int32) (r : Int32 × St) (hf : fX9_joinedOf_b125 rc43 rc53 σ x3 x4 t0 t1 = some r) : G k X 7 (some (.int r.1)) (mw k.2.2.2 r.2) (mw k.2.2.2 σ) [(0, .ref (k.2.2.2.1 0)), (3, .int x3), (4, .int x4)] [.int t1, .int t0] 125 := by
  unfold fX9_joinedOf_b125 at hf
  refine g_ior E dX9_joinedOf_125 ?_
  refine g_istore_n E [(2, .int (t0 ||| t1)), (0, .ref (k.2.2.2.1 0)), (3, .int x3), (4, .int x4)] dX9_joinedOf_126 rfl (by decide) rfl ?_
  refine g_iinc E 3 [(4, .int (x4 + (1 : Int32))), (2, .int (t0 ||| t1)), (0, .ref (k.2.2.2.1 0)), (3, .int x3)] (x4 + (1 : Int32)) dX9_joinedOf_127 rfl (by rfl) (by decide) rfl ?_
  refine g_goto (tgt := 53) E dX9_joinedOf_130 (by decide) ?_
  exact g_sub [2, 1, 3, 0] rfl (hrc53 σ (t0 ||| t1) x3 (x4 + (1 : Int32)) r hf)
set_option maxHeartbeats 4000000 in
set_option maxRecDepth 100000 in
theorem fX9_joinedOf_w102 {k : gK} {X : gX} (E : gE k X cX9_joinedOf RX9 wsX9_joinedOf 7 (some .int) rm_fX9_joinedOf) (rc43 : St → Int32 → Int32 → Option (Int32 × St)) (hrc43 : ∀ (σ : St) (x2 : Int32) (x3 : Int32) (r : Int32 × St), rc43 σ x2 x3 = some r → G k X 7 (some (.int r.1)) (mw k.2.2.2 r.2) (mw k.2.2.2 σ) [(0, .ref (k.2.2.2.1 0)), (2, .int x2), (3, .int x3)] [] 43) (rc53 : St → Int32 → Int32 → Int32 → Option (Int32 × St)) (hrc53 : ∀ (σ : St) (x2 : Int32) (x3 : Int32) (x4 : Int32) (r : Int32 × St), rc53 σ x2 x3 x4 = some r → G k X 7 (some (.int r.1)) (mw k.2.2.2 r.2) (mw k.2.2.2 σ) [(0, .ref (k.2.2.2.1 0)), (2, .int x2), (3, .int x3), (4, .int x4)] [] 53) (rc68 : St → Int32 → Int32 → Int32 → Int32 → Int32 → Option (Int32 × St)) (hrc68 : ∀ (σ : St) (x2 : Int32) (x3 : Int32) (x4 : Int32) (x5 : Int32) (x6 : Int32) (r : Int32 × St), rc68 σ x2 x3 x4 x5 x6 = some r → G k X 7 (some (.int r.1)) (mw k.2.2.2 r.2) (mw k.2.2.2 σ) [(0, .ref (k.2.2.2.1 0)), (2, .int x2), (3, .int x3), (4, .int x4), (5, .int x5), (6, .int x6)] [] 68) (σ : St) (x2 : Int32) (x3 : Int32) (x4 : Int32) (x6 : Int32) (t0 : Int32) (t1 : Int32) (r : Int32 × St) (hf : fX9_joinedOf_b102 rc43 rc53 rc68 σ x2 x3 x4 x6 t0 t1 = some r) : G k X 7 (some (.int r.1)) (mw k.2.2.2 r.2) (mw k.2.2.2 σ) [(0, .ref (k.2.2.2.1 0)), (2, .int x2), (3, .int x3), (4, .int x4), (6, .int x6)] [.int t1, .int t0] 102 := by
  unfold fX9_joinedOf_b102 at hf
  refine g_ior E dX9_joinedOf_102 ?_
  refine g_istore E [(5, .int (t0 ||| t1)), (0, .ref (k.2.2.2.1 0)), (2, .int x2), (3, .int x3), (4, .int x4), (6, .int x6)] dX9_joinedOf_103 (by decide) rfl ?_
  refine g_iinc E 5 [(6, .int (x6 + (1 : Int32))), (5, .int (t0 ||| t1)), (0, .ref (k.2.2.2.1 0)), (2, .int x2), (3, .int x3), (4, .int x4)] (x6 + (1 : Int32)) dX9_joinedOf_105 rfl (by rfl) (by decide) rfl ?_
  refine g_goto (tgt := 68) E dX9_joinedOf_108 (by decide) ?_
  exact g_sub [2, 3, 4, 5, 1, 0] rfl (hrc68 σ x2 x3 x4 (t0 ||| t1) (x6 + (1 : Int32)) r hf)
set_option maxHeartbeats 4000000 in
set_option maxRecDepth 100000 in
theorem fX9_joinedOf_w68 {k : gK} {X : gX} (E : gE k X cX9_joinedOf RX9 wsX9_joinedOf 7 (some .int) rm_fX9_joinedOf) (rc43 : St → Int32 → Int32 → Option (Int32 × St)) (hrc43 : ∀ (σ : St) (x2 : Int32) (x3 : Int32) (r : Int32 × St), rc43 σ x2 x3 = some r → G k X 7 (some (.int r.1)) (mw k.2.2.2 r.2) (mw k.2.2.2 σ) [(0, .ref (k.2.2.2.1 0)), (2, .int x2), (3, .int x3)] [] 43) (rc53 : St → Int32 → Int32 → Int32 → Option (Int32 × St)) (hrc53 : ∀ (σ : St) (x2 : Int32) (x3 : Int32) (x4 : Int32) (r : Int32 × St), rc53 σ x2 x3 x4 = some r → G k X 7 (some (.int r.1)) (mw k.2.2.2 r.2) (mw k.2.2.2 σ) [(0, .ref (k.2.2.2.1 0)), (2, .int x2), (3, .int x3), (4, .int x4)] [] 53) (rc68 : St → Int32 → Int32 → Int32 → Int32 → Int32 → Option (Int32 × St)) (hrc68 : ∀ (σ : St) (x2 : Int32) (x3 : Int32) (x4 : Int32) (x5 : Int32) (x6 : Int32) (r : Int32 × St), rc68 σ x2 x3 x4 x5 x6 = some r → G k X 7 (some (.int r.1)) (mw k.2.2.2 r.2) (mw k.2.2.2 σ) [(0, .ref (k.2.2.2.1 0)), (2, .int x2), (3, .int x3), (4, .int x4), (5, .int x5), (6, .int x6)] [] 68) (σ : St) (x2 : Int32) (x3 : Int32) (x4 : Int32) (x5 : Int32) (x6 : Int32) (r : Int32 × St) (hf : fX9_joinedOf_b68 rc43 rc53 rc68 σ x2 x3 x4 x5 x6 = some r) : G k X 7 (some (.int r.1)) (mw k.2.2.2 r.2) (mw k.2.2.2 σ) [(0, .ref (k.2.2.2.1 0)), (2, .int x2), (3, .int x3), (4, .int x4), (5, .int x5), (6, .int x6)] [] 68 := by
  unfold fX9_joinedOf_b68 at hf
  refine g_iload E 5 dX9_joinedOf_68 rfl ?_
  refine g_aload_n E 0 dX9_joinedOf_70 rfl rfl ?_
  refine g_get (C := RX9) (T := TX9) (N := 20) (ci := 9) E 0 3 (.int (σ.2.1 0)) hi_X9_joinedOf_X9 (mwG0 _ _) rfl (by decide) hk_X9_joinedOf_63 rfl dX9_joinedOf_71 ?_
  refine g_icmp_ge (tgt := 111) E dX9_joinedOf_74 (by decide) (fun c1 => ?_) (fun c1 => ?_)
  · have hf := gp hf c1
    refine g_iload_n E 1 dX9_joinedOf_111 rfl rfl ?_
    refine g_iload E 4 dX9_joinedOf_112 rfl ?_
    refine g_iload_n E 1 dX9_joinedOf_114 rfl rfl ?_
    refine g_iand E dX9_joinedOf_115 ?_
    refine g_if_eq (tgt := 124) E dX9_joinedOf_116 (by decide) (fun c2 => ?_) (fun c2 => ?_)
    · have hf := gp hf c2
      refine g_iconst (v := (0 : Int32)) E dX9_joinedOf_124 (by decide) ?_
      exact g_sub [0, 2, 3] rfl (fX9_joinedOf_w125 E rc43 hrc43 rc53 hrc53 σ x3 x4 x2 (0 : Int32) r hf)
    · have hf := gn hf c2
      refine g_iload E 4 dX9_joinedOf_119 rfl ?_
      refine g_goto (tgt := 125) E dX9_joinedOf_121 (by decide) ?_
      exact g_sub [0, 2, 3] rfl (fX9_joinedOf_w125 E rc43 hrc43 rc53 hrc53 σ x3 x4 x2 x5 r hf)
  · have hf := gn hf c1
    refine g_iload E 4 dX9_joinedOf_77 rfl ?_
    refine g_aload_n E 0 dX9_joinedOf_79 rfl rfl ?_
    refine g_get (C := RX9) (T := TX9) (N := 20) (ci := 9) E 0 10 (.ref (k.2.2.2.1 9)) hi_X9_joinedOf_X9 (mwG0 _ _) rfl (by decide) hk_X9_joinedOf_34 rfl dX9_joinedOf_80 ?_
    refine g_iload E 5 dX9_joinedOf_83 rfl ?_
    refine g_iload E 3 dX9_joinedOf_85 rfl ?_
    obtain ⟨q3, hq4, hf⟩ := gb hf
    refine g_callS (As := [.int x6, .int x4]) (rest := [.ref (k.2.2.2.1 9), .int x5]) (n := 2) E (fX9_at_c k σ x6 x4 q3 hq4) gX9_joinedOf_X9_at rfl rfl rfl (by decide +kernel) ⟨Nat.le_of_ble_eq_true rfl, Nat.le_of_ble_eq_true rfl⟩ rfl rfl (Nat.le_of_ble_eq_true rfl) dX9_joinedOf_87 ?_
    obtain ⟨hi5, hf⟩ := gd hf
    refine g_iald E 9 (q3.2.1 9) (mwG9 _ _) hi5 dX9_joinedOf_90 ?_
    refine g_if_lt (tgt := 101) E dX9_joinedOf_91 (by decide) (fun c6 => ?_) (fun c6 => ?_)
    · have hf := gp hf c6
      refine g_iconst (v := (0 : Int32)) E dX9_joinedOf_101 (by decide) ?_
      exact g_sub [0, 1, 2, 3, 5] rfl (fX9_joinedOf_w102 E rc43 hrc43 rc53 hrc53 rc68 hrc68 q3.2 x2 x3 x4 x6 x5 (0 : Int32) r hf)
    · have hf := gn hf c6
      refine g_iconst (v := (1 : Int32)) E dX9_joinedOf_94 (by decide) ?_
      refine g_iload E 5 dX9_joinedOf_95 rfl ?_
      refine g_ishl E dX9_joinedOf_97 ?_
      refine g_goto (tgt := 102) E dX9_joinedOf_98 (by decide) ?_
      exact g_sub [0, 1, 2, 3, 5] rfl (fX9_joinedOf_w102 E rc43 hrc43 rc53 hrc53 rc68 hrc68 q3.2 x2 x3 x4 x6 x5 ((1 : Int32) <<< (x6 &&& 31)) r hf)
theorem fX9_joinedOf_v68 {k : gK} {X : gX} (E : gE k X cX9_joinedOf RX9 wsX9_joinedOf 7 (some .int) rm_fX9_joinedOf) (rc43 : St → Int32 → Int32 → Option (Int32 × St)) (hrc43 : ∀ (σ : St) (x2 : Int32) (x3 : Int32) (r : Int32 × St), rc43 σ x2 x3 = some r → G k X 7 (some (.int r.1)) (mw k.2.2.2 r.2) (mw k.2.2.2 σ) [(0, .ref (k.2.2.2.1 0)), (2, .int x2), (3, .int x3)] [] 43) (rc53 : St → Int32 → Int32 → Int32 → Option (Int32 × St)) (hrc53 : ∀ (σ : St) (x2 : Int32) (x3 : Int32) (x4 : Int32) (r : Int32 × St), rc53 σ x2 x3 x4 = some r → G k X 7 (some (.int r.1)) (mw k.2.2.2 r.2) (mw k.2.2.2 σ) [(0, .ref (k.2.2.2.1 0)), (2, .int x2), (3, .int x3), (4, .int x4)] [] 53) : ∀ (n : Nat) (σ : St) (x2 : Int32) (x3 : Int32) (x4 : Int32) (x5 : Int32) (x6 : Int32) (r : Int32 × St), fX9_joinedOf_l68 rc43 rc53 n σ x2 x3 x4 x5 x6 = some r → G k X 7 (some (.int r.1)) (mw k.2.2.2 r.2) (mw k.2.2.2 σ) [(0, .ref (k.2.2.2.1 0)), (2, .int x2), (3, .int x3), (4, .int x4), (5, .int x5), (6, .int x6)] [] 68 := by
  intro n
  induction n with
  | zero => intro σ x2 x3 x4 x5 x6 r hf; cases hf
  | succ n ih => intro σ x2 x3 x4 x5 x6 r hf; exact fX9_joinedOf_w68 E rc43 hrc43 rc53 hrc53 (fX9_joinedOf_l68 rc43 rc53 n) ih σ x2 x3 x4 x5 x6 r hf
set_option maxHeartbeats 4000000 in
set_option maxRecDepth 100000 in
theorem fX9_joinedOf_w53 {k : gK} {X : gX} (E : gE k X cX9_joinedOf RX9 wsX9_joinedOf 7 (some .int) rm_fX9_joinedOf) (rc43 : St → Int32 → Int32 → Option (Int32 × St)) (hrc43 : ∀ (σ : St) (x2 : Int32) (x3 : Int32) (r : Int32 × St), rc43 σ x2 x3 = some r → G k X 7 (some (.int r.1)) (mw k.2.2.2 r.2) (mw k.2.2.2 σ) [(0, .ref (k.2.2.2.1 0)), (2, .int x2), (3, .int x3)] [] 43) (rc53 : St → Int32 → Int32 → Int32 → Option (Int32 × St)) (hrc53 : ∀ (σ : St) (x2 : Int32) (x3 : Int32) (x4 : Int32) (r : Int32 × St), rc53 σ x2 x3 x4 = some r → G k X 7 (some (.int r.1)) (mw k.2.2.2 r.2) (mw k.2.2.2 σ) [(0, .ref (k.2.2.2.1 0)), (2, .int x2), (3, .int x3), (4, .int x4)] [] 53) (σ : St) (x2 : Int32) (x3 : Int32) (x4 : Int32) (r : Int32 × St) (hf : fX9_joinedOf_b53 rc43 rc53 σ x2 x3 x4 = some r) : G k X 7 (some (.int r.1)) (mw k.2.2.2 r.2) (mw k.2.2.2 σ) [(0, .ref (k.2.2.2.1 0)), (2, .int x2), (3, .int x3), (4, .int x4)] [] 53 := by
  unfold fX9_joinedOf_b53 at hf
  refine g_iload E 3 dX9_joinedOf_53 rfl ?_
  refine g_aload_n E 0 dX9_joinedOf_55 rfl rfl ?_
  refine g_get (C := RX9) (T := TX9) (N := 20) (ci := 9) E 0 9 (.int (σ.2.1 1)) hi_X9_joinedOf_X9 (mwG0 _ _) rfl (by decide) hk_X9_joinedOf_67 rfl dX9_joinedOf_56 ?_
  refine g_icmp_ge (tgt := 133) E dX9_joinedOf_59 (by decide) (fun c1 => ?_) (fun c1 => ?_)
  · have hf := gp hf c1
    refine g_goto (tgt := 43) E dX9_joinedOf_133 (by decide) ?_
    exact g_sub [0, 1, 2] rfl (hrc43 σ x2 x3 r hf)
  · have hf := gn hf c1
    refine g_iconst (v := (0 : Int32)) E dX9_joinedOf_62 (by decide) ?_
    refine g_istore E [(5, .int (0 : Int32)), (0, .ref (k.2.2.2.1 0)), (2, .int x2), (3, .int x3), (4, .int x4)] dX9_joinedOf_63 (by decide) rfl ?_
    refine g_iconst (v := (0 : Int32)) E dX9_joinedOf_65 (by decide) ?_
    refine g_istore E [(6, .int (0 : Int32)), (5, .int (0 : Int32)), (0, .ref (k.2.2.2.1 0)), (2, .int x2), (3, .int x3), (4, .int x4)] dX9_joinedOf_66 (by decide) rfl ?_
    exact g_sub [2, 3, 4, 5, 1, 0] rfl (fX9_joinedOf_v68 E rc43 hrc43 rc53 hrc53 gF σ x2 x3 x4 (0 : Int32) (0 : Int32) r hf)
theorem fX9_joinedOf_v53 {k : gK} {X : gX} (E : gE k X cX9_joinedOf RX9 wsX9_joinedOf 7 (some .int) rm_fX9_joinedOf) (rc43 : St → Int32 → Int32 → Option (Int32 × St)) (hrc43 : ∀ (σ : St) (x2 : Int32) (x3 : Int32) (r : Int32 × St), rc43 σ x2 x3 = some r → G k X 7 (some (.int r.1)) (mw k.2.2.2 r.2) (mw k.2.2.2 σ) [(0, .ref (k.2.2.2.1 0)), (2, .int x2), (3, .int x3)] [] 43) : ∀ (n : Nat) (σ : St) (x2 : Int32) (x3 : Int32) (x4 : Int32) (r : Int32 × St), fX9_joinedOf_l53 rc43 n σ x2 x3 x4 = some r → G k X 7 (some (.int r.1)) (mw k.2.2.2 r.2) (mw k.2.2.2 σ) [(0, .ref (k.2.2.2.1 0)), (2, .int x2), (3, .int x3), (4, .int x4)] [] 53 := by
  intro n
  induction n with
  | zero => intro σ x2 x3 x4 r hf; cases hf
  | succ n ih => intro σ x2 x3 x4 r hf; exact fX9_joinedOf_w53 E rc43 hrc43 (fX9_joinedOf_l53 rc43 n) ih σ x2 x3 x4 r hf
set_option maxHeartbeats 4000000 in
set_option maxRecDepth 100000 in
theorem fX9_joinedOf_w43 {k : gK} {X : gX} (E : gE k X cX9_joinedOf RX9 wsX9_joinedOf 7 (some .int) rm_fX9_joinedOf) (rc43 : St → Int32 → Int32 → Option (Int32 × St)) (hrc43 : ∀ (σ : St) (x2 : Int32) (x3 : Int32) (r : Int32 × St), rc43 σ x2 x3 = some r → G k X 7 (some (.int r.1)) (mw k.2.2.2 r.2) (mw k.2.2.2 σ) [(0, .ref (k.2.2.2.1 0)), (2, .int x2), (3, .int x3)] [] 43) (σ : St) (x2 : Int32) (x3 : Int32) (r : Int32 × St) (hf : fX9_joinedOf_b43 rc43 σ x2 x3 = some r) : G k X 7 (some (.int r.1)) (mw k.2.2.2 r.2) (mw k.2.2.2 σ) [(0, .ref (k.2.2.2.1 0)), (2, .int x2), (3, .int x3)] [] 43 := by
  unfold fX9_joinedOf_b43 at hf
  refine g_iload_n E 2 dX9_joinedOf_43 rfl rfl ?_
  refine g_iload_n E 1 dX9_joinedOf_44 rfl rfl ?_
  refine g_icmp_eq (tgt := 136) E dX9_joinedOf_45 (by decide) (fun c1 => ?_) (fun c1 => ?_)
  · have hf := gp hf c1
    refine g_iload_n E 1 dX9_joinedOf_136 rfl rfl ?_
    cases hf
    exact g_iret E dX9_joinedOf_137
  · have hf := gn hf c1
    refine g_iload_n E 1 dX9_joinedOf_48 rfl rfl ?_
    refine g_istore_n E [(3, .int x2), (0, .ref (k.2.2.2.1 0)), (2, .int x2)] dX9_joinedOf_49 rfl (by decide) rfl ?_
    refine g_iconst (v := (0 : Int32)) E dX9_joinedOf_50 (by decide) ?_
    refine g_istore E [(4, .int (0 : Int32)), (3, .int x2), (0, .ref (k.2.2.2.1 0)), (2, .int x2)] dX9_joinedOf_51 (by decide) rfl ?_
    exact g_sub [2, 3, 1, 0] rfl (fX9_joinedOf_v53 E rc43 hrc43 gF σ x2 x2 (0 : Int32) r hf)
theorem fX9_joinedOf_v43 {k : gK} {X : gX} (E : gE k X cX9_joinedOf RX9 wsX9_joinedOf 7 (some .int) rm_fX9_joinedOf) : ∀ (n : Nat) (σ : St) (x2 : Int32) (x3 : Int32) (r : Int32 × St), fX9_joinedOf_l43 n σ x2 x3 = some r → G k X 7 (some (.int r.1)) (mw k.2.2.2 r.2) (mw k.2.2.2 σ) [(0, .ref (k.2.2.2.1 0)), (2, .int x2), (3, .int x3)] [] 43 := by
  intro n
  induction n with
  | zero => intro σ x2 x3 r hf; cases hf
  | succ n ih => intro σ x2 x3 r hf; exact fX9_joinedOf_w43 E (fX9_joinedOf_l43 n) ih σ x2 x3 r hf
set_option maxHeartbeats 4000000 in
set_option maxRecDepth 100000 in
theorem fX9_joinedOf_w33 {k : gK} {X : gX} (E : gE k X cX9_joinedOf RX9 wsX9_joinedOf 7 (some .int) rm_fX9_joinedOf) (rc4 : St → Int32 → Int32 → Int32 → Option (Int32 × St)) (hrc4 : ∀ (σ : St) (x1 : Int32) (x2 : Int32) (x3 : Int32) (r : Int32 × St), rc4 σ x1 x2 x3 = some r → G k X 7 (some (.int r.1)) (mw k.2.2.2 r.2) (mw k.2.2.2 σ) [(0, .ref (k.2.2.2.1 0)), (1, .int x1), (2, .int x2), (3, .int x3)] [] 4) (σ : St) (x1 : Int32) (x3 : Int32) (t0 : Int32) (t1 : Int32) (r : Int32 × St) (hf : fX9_joinedOf_b33 rc4 σ x1 x3 t0 t1 = some r) : G k X 7 (some (.int r.1)) (mw k.2.2.2 r.2) (mw k.2.2.2 σ) [(0, .ref (k.2.2.2.1 0)), (1, .int x1), (3, .int x3)] [.int t1, .int t0] 33 := by
  unfold fX9_joinedOf_b33 at hf
  refine g_ior E dX9_joinedOf_33 ?_
  refine g_istore_n E [(2, .int (t0 ||| t1)), (0, .ref (k.2.2.2.1 0)), (1, .int x1), (3, .int x3)] dX9_joinedOf_34 rfl (by decide) rfl ?_
  refine g_iinc E 3 [(3, .int (x3 + (1 : Int32))), (2, .int (t0 ||| t1)), (0, .ref (k.2.2.2.1 0)), (1, .int x1)] (x3 + (1 : Int32)) dX9_joinedOf_35 rfl (by rfl) (by decide) rfl ?_
  refine g_goto (tgt := 4) E dX9_joinedOf_38 (by decide) ?_
  exact g_sub [2, 3, 1, 0] rfl (hrc4 σ x1 (t0 ||| t1) (x3 + (1 : Int32)) r hf)
set_option maxHeartbeats 4000000 in
set_option maxRecDepth 100000 in
theorem fX9_joinedOf_w4 {k : gK} {X : gX} (E : gE k X cX9_joinedOf RX9 wsX9_joinedOf 7 (some .int) rm_fX9_joinedOf) (rc4 : St → Int32 → Int32 → Int32 → Option (Int32 × St)) (hrc4 : ∀ (σ : St) (x1 : Int32) (x2 : Int32) (x3 : Int32) (r : Int32 × St), rc4 σ x1 x2 x3 = some r → G k X 7 (some (.int r.1)) (mw k.2.2.2 r.2) (mw k.2.2.2 σ) [(0, .ref (k.2.2.2.1 0)), (1, .int x1), (2, .int x2), (3, .int x3)] [] 4) (σ : St) (x1 : Int32) (x2 : Int32) (x3 : Int32) (r : Int32 × St) (hf : fX9_joinedOf_b4 rc4 σ x1 x2 x3 = some r) : G k X 7 (some (.int r.1)) (mw k.2.2.2 r.2) (mw k.2.2.2 σ) [(0, .ref (k.2.2.2.1 0)), (1, .int x1), (2, .int x2), (3, .int x3)] [] 4 := by
  unfold fX9_joinedOf_b4 at hf
  refine g_iload_n E 3 dX9_joinedOf_4 rfl rfl ?_
  refine g_aload_n E 0 dX9_joinedOf_5 rfl rfl ?_
  refine g_get (C := RX9) (T := TX9) (N := 20) (ci := 9) E 0 9 (.int (σ.2.1 1)) hi_X9_joinedOf_X9 (mwG0 _ _) rfl (by decide) hk_X9_joinedOf_67 rfl dX9_joinedOf_6 ?_
  refine g_icmp_ge (tgt := 41) E dX9_joinedOf_9 (by decide) (fun c1 => ?_) (fun c1 => ?_)
  · have hf := gp hf c1
    refine g_iconst (v := (0 : Int32)) E dX9_joinedOf_41 (by decide) ?_
    refine g_istore_n E [(3, .int (0 : Int32)), (0, .ref (k.2.2.2.1 0)), (1, .int x1), (2, .int x2)] dX9_joinedOf_42 rfl (by decide) rfl ?_
    exact g_sub [1, 3, 0] rfl (fX9_joinedOf_v43 E gF σ x2 (0 : Int32) r hf)
  · have hf := gn hf c1
    refine g_iload_n E 2 dX9_joinedOf_12 rfl rfl ?_
    refine g_aload_n E 0 dX9_joinedOf_13 rfl rfl ?_
    refine g_get (C := RX9) (T := TX9) (N := 20) (ci := 9) E 0 10 (.ref (k.2.2.2.1 9)) hi_X9_joinedOf_X9 (mwG0 _ _) rfl (by decide) hk_X9_joinedOf_34 rfl dX9_joinedOf_14 ?_
    refine g_iload_n E 1 dX9_joinedOf_17 rfl rfl ?_
    refine g_iload_n E 3 dX9_joinedOf_18 rfl rfl ?_
    obtain ⟨q2, hq3, hf⟩ := gb hf
    refine g_callS (As := [.int x1, .int x3]) (rest := [.ref (k.2.2.2.1 9), .int x2]) (n := 2) E (fX9_at_c k σ x1 x3 q2 hq3) gX9_joinedOf_X9_at rfl rfl rfl (by decide +kernel) ⟨Nat.le_of_ble_eq_true rfl, Nat.le_of_ble_eq_true rfl⟩ rfl rfl (Nat.le_of_ble_eq_true rfl) dX9_joinedOf_19 ?_
    obtain ⟨hi4, hf⟩ := gd hf
    refine g_iald E 9 (q2.2.1 9) (mwG9 _ _) hi4 dX9_joinedOf_22 ?_
    refine g_if_lt (tgt := 32) E dX9_joinedOf_23 (by decide) (fun c5 => ?_) (fun c5 => ?_)
    · have hf := gp hf c5
      refine g_iconst (v := (0 : Int32)) E dX9_joinedOf_32 (by decide) ?_
      exact g_sub [0, 1, 3] rfl (fX9_joinedOf_w33 E rc4 hrc4 q2.2 x1 x3 x2 (0 : Int32) r hf)
    · have hf := gn hf c5
      refine g_iconst (v := (1 : Int32)) E dX9_joinedOf_26 (by decide) ?_
      refine g_iload_n E 1 dX9_joinedOf_27 rfl rfl ?_
      refine g_ishl E dX9_joinedOf_28 ?_
      refine g_goto (tgt := 33) E dX9_joinedOf_29 (by decide) ?_
      exact g_sub [0, 1, 3] rfl (fX9_joinedOf_w33 E rc4 hrc4 q2.2 x1 x3 x2 ((1 : Int32) <<< (x1 &&& 31)) r hf)
theorem fX9_joinedOf_v4 {k : gK} {X : gX} (E : gE k X cX9_joinedOf RX9 wsX9_joinedOf 7 (some .int) rm_fX9_joinedOf) : ∀ (n : Nat) (σ : St) (x1 : Int32) (x2 : Int32) (x3 : Int32) (r : Int32 × St), fX9_joinedOf_l4 n σ x1 x2 x3 = some r → G k X 7 (some (.int r.1)) (mw k.2.2.2 r.2) (mw k.2.2.2 σ) [(0, .ref (k.2.2.2.1 0)), (1, .int x1), (2, .int x2), (3, .int x3)] [] 4 := by
  intro n
  induction n with
  | zero => intro σ x1 x2 x3 r hf; cases hf
  | succ n ih => intro σ x1 x2 x3 r hf; exact fX9_joinedOf_w4 E (fX9_joinedOf_l4 n) ih σ x1 x2 x3 r hf
set_option maxHeartbeats 4000000 in
set_option maxRecDepth 100000 in
theorem fX9_joinedOf_c (k : gK) (σ : St) (x1 : Int32) (r : Int32 × St) (hf : fX9_joinedOf σ x1 = some r) : MC k yX9_joinedOf wsX9_joinedOf rm_fX9_joinedOf [.ref (k.2.2.2.1 0), .int x1] (mw k.2.2.2 σ) (some (.int r.1)) (mw k.2.2.2 r.2) := by
  refine MC_of (cc := cX9_joinedOf) (maxL := 7) (ret := (some .int)) (own := RX9) (lvs := [(0, .ref (k.2.2.2.1 0)), (1, .int x1)]) (by decide) rfl rfl (Nat.le_of_ble_eq_true rfl) rfl (fun X E => ?_)
  unfold fX9_joinedOf at hf
  refine g_iconst (v := (0 : Int32)) E dX9_joinedOf_0 (by decide) ?_
  refine g_istore_n E [(2, .int (0 : Int32)), (0, .ref (k.2.2.2.1 0)), (1, .int x1)] dX9_joinedOf_1 rfl (by decide) rfl ?_
  refine g_iconst (v := (0 : Int32)) E dX9_joinedOf_2 (by decide) ?_
  refine g_istore_n E [(3, .int (0 : Int32)), (2, .int (0 : Int32)), (0, .ref (k.2.2.2.1 0)), (1, .int x1)] dX9_joinedOf_3 rfl (by decide) rfl ?_
  exact g_sub [2, 3, 1, 0] rfl (fX9_joinedOf_v4 E gF σ x1 (0 : Int32) (0 : Int32) r hf)
def rm_fX9_joined : Room := { frames := 2, cells := 0, slots := 0, locals := 47 }
set_option maxHeartbeats 4000000 in
set_option maxRecDepth 100000 in
theorem fX9_joined_c (k : gK) (σ : St) (x1 : Int32) (r : Int32 × St) (hf : fX9_joined σ x1 = some r) : MC k yX9_joined wsX9_joined rm_fX9_joined [.ref (k.2.2.2.1 0), .int x1] (mw k.2.2.2 σ) (some (.int r.1)) (mw k.2.2.2 r.2) := by
  refine MC_of (cc := cX9_joined) (maxL := 2) (ret := (some .int)) (own := RX9) (lvs := [(0, .ref (k.2.2.2.1 0)), (1, .int x1)]) (by decide) rfl rfl (Nat.le_of_ble_eq_true rfl) rfl (fun X E => ?_)
  unfold fX9_joined at hf
  refine g_aload_n E 0 dX9_joined_0 rfl rfl ?_
  refine g_iload_n E 1 dX9_joined_1 rfl rfl ?_
  obtain ⟨q1, hq2, hf⟩ := gb hf
  refine g_callV (C := RX9) (T := TX9) (N := 20) (ci := 9) (As := [.int x1]) (rest := []) (n := 1) E 0 (fX9_isJudge_c k σ x1 q1 hq2) gX9_joined_X9_isJudge rfl rfl rfl (by decide +kernel) ⟨Nat.le_of_ble_eq_true rfl, Nat.le_of_ble_eq_true rfl⟩ rfl rfl (Nat.le_of_ble_eq_true rfl) rfl (mwG0 _ _) dX9_joined_2 ?_
  refine g_if_eq (tgt := 16) E dX9_joined_5 (by decide) (fun c3 => ?_) (fun c3 => ?_)
  · have hf := gp hf c3
    refine g_iconst (v := (-1 : Int32)) E dX9_joined_16 (by decide) ?_
    cases hf
    exact g_iret E dX9_joined_17
  · have hf := gn hf c3
    refine g_aload_n E 0 dX9_joined_8 rfl rfl ?_
    refine g_iload_n E 1 dX9_joined_9 rfl rfl ?_
    obtain ⟨q4, hq5, hf⟩ := gb hf
    refine g_callV (C := RX9) (T := TX9) (N := 20) (ci := 9) (As := [.int x1]) (rest := []) (n := 1) E 0 (fX9_joinedOf_c k q1.2 x1 q4 hq5) gX9_joined_X9_joinedOf rfl rfl rfl (by decide +kernel) ⟨Nat.le_of_ble_eq_true rfl, Nat.le_of_ble_eq_true rfl⟩ rfl rfl (Nat.le_of_ble_eq_true rfl) rfl (mwG0 _ _) dX9_joined_10 ?_
    refine g_goto (tgt := 17) E dX9_joined_13 (by decide) ?_
    cases hf
    exact g_iret E dX9_joined_17
theorem hi_X9_parts_X9 : ∀ w ∈ wsX90, w ∈ wsX9_parts := by decide +kernel
theorem hk_X9_parts_63 : Cond.fieldLink RX9 63 "PaperMarksModel" "judges" "I" ∈ wsX9_parts := by decide +kernel
def rm_fX9_parts : Room := { frames := 2, cells := 0, slots := 0, locals := 47 }
set_option maxHeartbeats 4000000 in
set_option maxRecDepth 100000 in
theorem fX9_parts_w38 {k : gK} {X : gX} (E : gE k X cX9_parts RX9 wsX9_parts 4 (some .int) rm_fX9_parts) (rc4 : St → Int32 → Int32 → Option (Int32 × St)) (hrc4 : ∀ (σ : St) (x1 : Int32) (x2 : Int32) (r : Int32 × St), rc4 σ x1 x2 = some r → G k X 4 (some (.int r.1)) (mw k.2.2.2 r.2) (mw k.2.2.2 σ) [(0, .ref (k.2.2.2.1 0)), (1, .int x1), (2, .int x2)] [] 4) (σ : St) (x2 : Int32) (t0 : Int32) (t1 : Int32) (r : Int32 × St) (hf : fX9_parts_b38 rc4 σ x2 t0 t1 = some r) : G k X 4 (some (.int r.1)) (mw k.2.2.2 r.2) (mw k.2.2.2 σ) [(0, .ref (k.2.2.2.1 0)), (2, .int x2)] [.int t1, .int t0] 38 := by
  unfold fX9_parts_b38 at hf
  refine g_iadd E dX9_parts_38 ?_
  refine g_istore_n E [(1, .int (t0 + t1)), (0, .ref (k.2.2.2.1 0)), (2, .int x2)] dX9_parts_39 rfl (by decide) rfl ?_
  refine g_iinc E 2 [(2, .int (x2 + (1 : Int32))), (1, .int (t0 + t1)), (0, .ref (k.2.2.2.1 0))] (x2 + (1 : Int32)) dX9_parts_40 rfl (by rfl) (by decide) rfl ?_
  refine g_goto (tgt := 4) E dX9_parts_43 (by decide) ?_
  exact g_sub [2, 1, 0] rfl (hrc4 σ (t0 + t1) (x2 + (1 : Int32)) r hf)
set_option maxHeartbeats 4000000 in
set_option maxRecDepth 100000 in
theorem fX9_parts_w37 {k : gK} {X : gX} (E : gE k X cX9_parts RX9 wsX9_parts 4 (some .int) rm_fX9_parts) (rc4 : St → Int32 → Int32 → Option (Int32 × St)) (hrc4 : ∀ (σ : St) (x1 : Int32) (x2 : Int32) (r : Int32 × St), rc4 σ x1 x2 = some r → G k X 4 (some (.int r.1)) (mw k.2.2.2 r.2) (mw k.2.2.2 σ) [(0, .ref (k.2.2.2.1 0)), (1, .int x1), (2, .int x2)] [] 4) (σ : St) (x2 : Int32) (t0 : Int32) (r : Int32 × St) (hf : fX9_parts_b37 rc4 σ x2 t0 = some r) : G k X 4 (some (.int r.1)) (mw k.2.2.2 r.2) (mw k.2.2.2 σ) [(0, .ref (k.2.2.2.1 0)), (2, .int x2)] [.int t0] 37 := by
  unfold fX9_parts_b37 at hf
  refine g_iconst (v := (0 : Int32)) E dX9_parts_37 (by decide) ?_
  exact fX9_parts_w38 E rc4 hrc4 σ x2 t0 (0 : Int32) r hf
set_option maxHeartbeats 4000000 in
set_option maxRecDepth 100000 in
theorem fX9_parts_w4 {k : gK} {X : gX} (E : gE k X cX9_parts RX9 wsX9_parts 4 (some .int) rm_fX9_parts) (rc4 : St → Int32 → Int32 → Option (Int32 × St)) (hrc4 : ∀ (σ : St) (x1 : Int32) (x2 : Int32) (r : Int32 × St), rc4 σ x1 x2 = some r → G k X 4 (some (.int r.1)) (mw k.2.2.2 r.2) (mw k.2.2.2 σ) [(0, .ref (k.2.2.2.1 0)), (1, .int x1), (2, .int x2)] [] 4) (σ : St) (x1 : Int32) (x2 : Int32) (r : Int32 × St) (hf : fX9_parts_b4 rc4 σ x1 x2 = some r) : G k X 4 (some (.int r.1)) (mw k.2.2.2 r.2) (mw k.2.2.2 σ) [(0, .ref (k.2.2.2.1 0)), (1, .int x1), (2, .int x2)] [] 4 := by
  unfold fX9_parts_b4 at hf
  refine g_iload_n E 2 dX9_parts_4 rfl rfl ?_
  refine g_aload_n E 0 dX9_parts_5 rfl rfl ?_
  refine g_get (C := RX9) (T := TX9) (N := 20) (ci := 9) E 0 3 (.int (σ.2.1 0)) hi_X9_parts_X9 (mwG0 _ _) rfl (by decide) hk_X9_parts_63 rfl dX9_parts_6 ?_
  refine g_icmp_ge (tgt := 46) E dX9_parts_9 (by decide) (fun c1 => ?_) (fun c1 => ?_)
  · have hf := gp hf c1
    refine g_iload_n E 1 dX9_parts_46 rfl rfl ?_
    cases hf
    exact g_iret E dX9_parts_47
  · have hf := gn hf c1
    refine g_aload_n E 0 dX9_parts_12 rfl rfl ?_
    refine g_iload_n E 2 dX9_parts_13 rfl rfl ?_
    obtain ⟨q2, hq3, hf⟩ := gb hf
    refine g_callV (C := RX9) (T := TX9) (N := 20) (ci := 9) (As := [.int x2]) (rest := []) (n := 1) E 0 (fX9_joinedOf_c k σ x2 q2 hq3) gX9_parts_X9_joinedOf rfl rfl rfl (by decide +kernel) ⟨Nat.le_of_ble_eq_true rfl, Nat.le_of_ble_eq_true rfl⟩ rfl rfl (Nat.le_of_ble_eq_true rfl) rfl (mwG0 _ _) dX9_parts_14 ?_
    refine g_istore_n E [(3, .int q2.1), (0, .ref (k.2.2.2.1 0)), (1, .int x1), (2, .int x2)] dX9_parts_17 rfl (by decide) rfl ?_
    refine g_iload_n E 2 dX9_parts_18 rfl rfl ?_
    refine g_iload_n E 0 dX9_parts_19 rfl rfl ?_
    refine g_if_eq (tgt := 37) E dX9_parts_20 (by decide) (fun c4 => ?_) (fun c4 => ?_)
    · have hf := gp hf c4
      exact g_sub [1, 3] rfl (fX9_parts_w37 E rc4 hrc4 q2.2 x2 x1 r hf)
    · have hf := gn hf c4
      refine g_iload_n E 0 dX9_parts_23 rfl rfl ?_
      refine g_iconst (v := (1 : Int32)) E dX9_parts_24 (by decide) ?_
      refine g_iload_n E 3 dX9_parts_25 rfl rfl ?_
      refine g_ishl E dX9_parts_26 ?_
      refine g_iconst (v := (1 : Int32)) E dX9_parts_27 (by decide) ?_
      refine g_isub E dX9_parts_28 ?_
      refine g_iand E dX9_parts_29 ?_
      refine g_if_ne (tgt := 37) E dX9_parts_30 (by decide) (fun c5 => ?_) (fun c5 => ?_)
      · have hf := gn hf c5
        exact g_sub [1, 3] rfl (fX9_parts_w37 E rc4 hrc4 q2.2 x2 x1 r hf)
      · have hf := gp hf c5
        refine g_iconst (v := (1 : Int32)) E dX9_parts_33 (by decide) ?_
        refine g_goto (tgt := 38) E dX9_parts_34 (by decide) ?_
        exact g_sub [1, 3] rfl (fX9_parts_w38 E rc4 hrc4 q2.2 x2 x1 (1 : Int32) r hf)
theorem fX9_parts_v4 {k : gK} {X : gX} (E : gE k X cX9_parts RX9 wsX9_parts 4 (some .int) rm_fX9_parts) : ∀ (n : Nat) (σ : St) (x1 : Int32) (x2 : Int32) (r : Int32 × St), fX9_parts_l4 n σ x1 x2 = some r → G k X 4 (some (.int r.1)) (mw k.2.2.2 r.2) (mw k.2.2.2 σ) [(0, .ref (k.2.2.2.1 0)), (1, .int x1), (2, .int x2)] [] 4 := by
  intro n
  induction n with
  | zero => intro σ x1 x2 r hf; cases hf
  | succ n ih => intro σ x1 x2 r hf; exact fX9_parts_w4 E (fX9_parts_l4 n) ih σ x1 x2 r hf
set_option maxHeartbeats 4000000 in
set_option maxRecDepth 100000 in
theorem fX9_parts_c (k : gK) (σ : St) (r : Int32 × St) (hf : fX9_parts σ = some r) : MC k yX9_parts wsX9_parts rm_fX9_parts [.ref (k.2.2.2.1 0)] (mw k.2.2.2 σ) (some (.int r.1)) (mw k.2.2.2 r.2) := by
  refine MC_of (cc := cX9_parts) (maxL := 4) (ret := (some .int)) (own := RX9) (lvs := [(0, .ref (k.2.2.2.1 0))]) (by decide) rfl rfl (Nat.le_of_ble_eq_true rfl) rfl (fun X E => ?_)
  unfold fX9_parts at hf
  refine g_iconst (v := (0 : Int32)) E dX9_parts_0 (by decide) ?_
  refine g_istore_n E [(1, .int (0 : Int32)), (0, .ref (k.2.2.2.1 0))] dX9_parts_1 rfl (by decide) rfl ?_
  refine g_iconst (v := (0 : Int32)) E dX9_parts_2 (by decide) ?_
  refine g_istore_n E [(2, .int (0 : Int32)), (1, .int (0 : Int32)), (0, .ref (k.2.2.2.1 0))] dX9_parts_3 rfl (by decide) rfl ?_
  exact g_sub [2, 1, 0] rfl (fX9_parts_v4 E gF σ (0 : Int32) (0 : Int32) r hf)
theorem hi_X9_harsh_X9 : ∀ w ∈ wsX90, w ∈ wsX9_harsh := by decide +kernel
theorem hk_X9_harsh_63 : Cond.fieldLink RX9 63 "PaperMarksModel" "judges" "I" ∈ wsX9_harsh := by decide +kernel
theorem hk_X9_harsh_34 : Cond.fieldLink RX9 34 "PaperMarksModel" "marks" "[I" ∈ wsX9_harsh := by decide +kernel
theorem hk_X9_harsh_67 : Cond.fieldLink RX9 67 "PaperMarksModel" "papers" "I" ∈ wsX9_harsh := by decide +kernel
def rm_fX9_harsh : Room := { frames := 2, cells := 0, slots := 0, locals := 46 }
set_option maxHeartbeats 4000000 in
set_option maxRecDepth 100000 in
theorem fX9_harsh_w172 {k : gK} {X : gX} (E : gE k X cX9_harsh RX9 wsX9_harsh 12 (some .long) rm_fX9_harsh) (rc31 : St → Int32 → Int32 → Int64 → Int64 → Int32 → Option (Int64 × St)) (hrc31 : ∀ (σ : St) (x1 : Int32) (x2 : Int32) (x3 : Int64) (x5 : Int64) (x7 : Int32) (r : Int64 × St), rc31 σ x1 x2 x3 x5 x7 = some r → G k X 12 (some (.long r.1)) (mw k.2.2.2 r.2) (mw k.2.2.2 σ) [(0, .ref (k.2.2.2.1 0)), (1, .int x1), (2, .int x2), (3, .long x3), (5, .long x5), (7, .int x7)] [] 31) (σ : St) (x1 : Int32) (x2 : Int32) (x3 : Int64) (x5 : Int64) (x7 : Int32) (r : Int64 × St) (hf : fX9_harsh_b172 rc31 σ x1 x2 x3 x5 x7 = some r) : G k X 12 (some (.long r.1)) (mw k.2.2.2 r.2) (mw k.2.2.2 σ) [(0, .ref (k.2.2.2.1 0)), (1, .int x1), (2, .int x2), (3, .long x3), (5, .long x5), (7, .int x7)] [] 172 := by
  unfold fX9_harsh_b172 at hf
  refine g_iinc E 5 [(7, .int (x7 + (1 : Int32))), (0, .ref (k.2.2.2.1 0)), (1, .int x1), (2, .int x2), (3, .long x3), (5, .long x5)] (x7 + (1 : Int32)) dX9_harsh_172 rfl (by rfl) (by decide) rfl ?_
  refine g_goto (tgt := 31) E dX9_harsh_175 (by decide) ?_
  exact g_sub [1, 2, 3, 4, 5, 0] rfl (hrc31 σ x1 x2 x3 x5 (x7 + (1 : Int32)) r hf)
set_option maxHeartbeats 4000000 in
set_option maxRecDepth 100000 in
theorem fX9_harsh_w112 {k : gK} {X : gX} (E : gE k X cX9_harsh RX9 wsX9_harsh 12 (some .long) rm_fX9_harsh) (rc31 : St → Int32 → Int32 → Int64 → Int64 → Int32 → Option (Int64 × St)) (hrc31 : ∀ (σ : St) (x1 : Int32) (x2 : Int32) (x3 : Int64) (x5 : Int64) (x7 : Int32) (r : Int64 × St), rc31 σ x1 x2 x3 x5 x7 = some r → G k X 12 (some (.long r.1)) (mw k.2.2.2 r.2) (mw k.2.2.2 σ) [(0, .ref (k.2.2.2.1 0)), (1, .int x1), (2, .int x2), (3, .long x3), (5, .long x5), (7, .int x7)] [] 31) (rc49 : St → Int32 → Int32 → Int64 → Int64 → Int32 → Int32 → Int32 → Int32 → Option (Int64 × St)) (hrc49 : ∀ (σ : St) (x1 : Int32) (x2 : Int32) (x3 : Int64) (x5 : Int64) (x7 : Int32) (x8 : Int32) (x9 : Int32) (x10 : Int32) (r : Int64 × St), rc49 σ x1 x2 x3 x5 x7 x8 x9 x10 = some r → G k X 12 (some (.long r.1)) (mw k.2.2.2 r.2) (mw k.2.2.2 σ) [(0, .ref (k.2.2.2.1 0)), (1, .int x1), (2, .int x2), (3, .long x3), (5, .long x5), (7, .int x7), (8, .int x8), (9, .int x9), (10, .int x10)] [] 49) (σ : St) (x1 : Int32) (x2 : Int32) (x3 : Int64) (x5 : Int64) (x7 : Int32) (x8 : Int32) (x10 : Int32) (t0 : Int32) (t1 : Int32) (r : Int64 × St) (hf : fX9_harsh_b112 rc31 rc49 σ x1 x2 x3 x5 x7 x8 x10 t0 t1 = some r) : G k X 12 (some (.long r.1)) (mw k.2.2.2 r.2) (mw k.2.2.2 σ) [(0, .ref (k.2.2.2.1 0)), (1, .int x1), (2, .int x2), (3, .long x3), (5, .long x5), (7, .int x7), (8, .int x8), (10, .int x10)] [.int t1, .int t0] 112 := by
  unfold fX9_harsh_b112 at hf
  refine g_iadd E dX9_harsh_112 ?_
  refine g_istore E [(9, .int (t0 + t1)), (0, .ref (k.2.2.2.1 0)), (1, .int x1), (2, .int x2), (3, .long x3), (5, .long x5), (7, .int x7), (8, .int x8), (10, .int x10)] dX9_harsh_113 (by decide) rfl ?_
  refine g_iinc E 8 [(10, .int (x10 + (1 : Int32))), (9, .int (t0 + t1)), (0, .ref (k.2.2.2.1 0)), (1, .int x1), (2, .int x2), (3, .long x3), (5, .long x5), (7, .int x7), (8, .int x8)] (x10 + (1 : Int32)) dX9_harsh_115 rfl (by rfl) (by decide) rfl ?_
  refine g_goto (tgt := 49) E dX9_harsh_118 (by decide) ?_
  exact g_sub [2, 3, 4, 5, 6, 7, 8, 1, 0] rfl (hrc49 σ x1 x2 x3 x5 x7 x8 (t0 + t1) (x10 + (1 : Int32)) r hf)
set_option maxHeartbeats 4000000 in
set_option maxRecDepth 100000 in
theorem fX9_harsh_w111 {k : gK} {X : gX} (E : gE k X cX9_harsh RX9 wsX9_harsh 12 (some .long) rm_fX9_harsh) (rc31 : St → Int32 → Int32 → Int64 → Int64 → Int32 → Option (Int64 × St)) (hrc31 : ∀ (σ : St) (x1 : Int32) (x2 : Int32) (x3 : Int64) (x5 : Int64) (x7 : Int32) (r : Int64 × St), rc31 σ x1 x2 x3 x5 x7 = some r → G k X 12 (some (.long r.1)) (mw k.2.2.2 r.2) (mw k.2.2.2 σ) [(0, .ref (k.2.2.2.1 0)), (1, .int x1), (2, .int x2), (3, .long x3), (5, .long x5), (7, .int x7)] [] 31) (rc49 : St → Int32 → Int32 → Int64 → Int64 → Int32 → Int32 → Int32 → Int32 → Option (Int64 × St)) (hrc49 : ∀ (σ : St) (x1 : Int32) (x2 : Int32) (x3 : Int64) (x5 : Int64) (x7 : Int32) (x8 : Int32) (x9 : Int32) (x10 : Int32) (r : Int64 × St), rc49 σ x1 x2 x3 x5 x7 x8 x9 x10 = some r → G k X 12 (some (.long r.1)) (mw k.2.2.2 r.2) (mw k.2.2.2 σ) [(0, .ref (k.2.2.2.1 0)), (1, .int x1), (2, .int x2), (3, .long x3), (5, .long x5), (7, .int x7), (8, .int x8), (9, .int x9), (10, .int x10)] [] 49) (σ : St) (x1 : Int32) (x2 : Int32) (x3 : Int64) (x5 : Int64) (x7 : Int32) (x8 : Int32) (x10 : Int32) (t0 : Int32) (r : Int64 × St) (hf : fX9_harsh_b111 rc31 rc49 σ x1 x2 x3 x5 x7 x8 x10 t0 = some r) : G k X 12 (some (.long r.1)) (mw k.2.2.2 r.2) (mw k.2.2.2 σ) [(0, .ref (k.2.2.2.1 0)), (1, .int x1), (2, .int x2), (3, .long x3), (5, .long x5), (7, .int x7), (8, .int x8), (10, .int x10)] [.int t0] 111 := by
  unfold fX9_harsh_b111 at hf
  refine g_iconst (v := (0 : Int32)) E dX9_harsh_111 (by decide) ?_
  exact fX9_harsh_w112 E rc31 hrc31 rc49 hrc49 σ x1 x2 x3 x5 x7 x8 x10 t0 (0 : Int32) r hf
set_option maxHeartbeats 4000000 in
set_option maxRecDepth 100000 in
theorem fX9_harsh_w91 {k : gK} {X : gX} (E : gE k X cX9_harsh RX9 wsX9_harsh 12 (some .long) rm_fX9_harsh) (rc31 : St → Int32 → Int32 → Int64 → Int64 → Int32 → Option (Int64 × St)) (hrc31 : ∀ (σ : St) (x1 : Int32) (x2 : Int32) (x3 : Int64) (x5 : Int64) (x7 : Int32) (r : Int64 × St), rc31 σ x1 x2 x3 x5 x7 = some r → G k X 12 (some (.long r.1)) (mw k.2.2.2 r.2) (mw k.2.2.2 σ) [(0, .ref (k.2.2.2.1 0)), (1, .int x1), (2, .int x2), (3, .long x3), (5, .long x5), (7, .int x7)] [] 31) (rc49 : St → Int32 → Int32 → Int64 → Int64 → Int32 → Int32 → Int32 → Int32 → Option (Int64 × St)) (hrc49 : ∀ (σ : St) (x1 : Int32) (x2 : Int32) (x3 : Int64) (x5 : Int64) (x7 : Int32) (x8 : Int32) (x9 : Int32) (x10 : Int32) (r : Int64 × St), rc49 σ x1 x2 x3 x5 x7 x8 x9 x10 = some r → G k X 12 (some (.long r.1)) (mw k.2.2.2 r.2) (mw k.2.2.2 σ) [(0, .ref (k.2.2.2.1 0)), (1, .int x1), (2, .int x2), (3, .long x3), (5, .long x5), (7, .int x7), (8, .int x8), (9, .int x9), (10, .int x10)] [] 49) (σ : St) (x1 : Int32) (x2 : Int32) (x3 : Int64) (x5 : Int64) (x7 : Int32) (x9 : Int32) (x10 : Int32) (x11 : Int32) (t0 : Int32) (t1 : Int32) (r : Int64 × St) (hf : fX9_harsh_b91 rc31 rc49 σ x1 x2 x3 x5 x7 x9 x10 x11 t0 t1 = some r) : G k X 12 (some (.long r.1)) (mw k.2.2.2 r.2) (mw k.2.2.2 σ) [(0, .ref (k.2.2.2.1 0)), (1, .int x1), (2, .int x2), (3, .long x3), (5, .long x5), (7, .int x7), (9, .int x9), (10, .int x10), (11, .int x11)] [.int t1, .int t0] 91 := by
  unfold fX9_harsh_b91 at hf
  refine g_iadd E dX9_harsh_91 ?_
  refine g_istore E [(8, .int (t0 + t1)), (0, .ref (k.2.2.2.1 0)), (1, .int x1), (2, .int x2), (3, .long x3), (5, .long x5), (7, .int x7), (9, .int x9), (10, .int x10), (11, .int x11)] dX9_harsh_92 (by decide) rfl ?_
  refine g_iload E 7 dX9_harsh_94 rfl ?_
  refine g_iload E 8 dX9_harsh_96 rfl ?_
  refine g_iload_n E 2 dX9_harsh_98 rfl rfl ?_
  refine g_icmp_eq (tgt := 111) E dX9_harsh_99 (by decide) (fun c1 => ?_) (fun c1 => ?_)
  · have hf := gp hf c1
    exact g_sub [1, 2, 3, 4, 5, 6, 0, 8] rfl (fX9_harsh_w111 E rc31 hrc31 rc49 hrc49 σ x1 x2 x3 x5 x7 (t0 + t1) x10 x9 r hf)
  · have hf := gn hf c1
    refine g_iload E 9 dX9_harsh_102 rfl ?_
    refine g_if_lt (tgt := 111) E dX9_harsh_104 (by decide) (fun c2 => ?_) (fun c2 => ?_)
    · have hf := gp hf c2
      exact g_sub [1, 2, 3, 4, 5, 6, 0, 8] rfl (fX9_harsh_w111 E rc31 hrc31 rc49 hrc49 σ x1 x2 x3 x5 x7 (t0 + t1) x10 x9 r hf)
    · have hf := gn hf c2
      refine g_iconst (v := (1 : Int32)) E dX9_harsh_107 (by decide) ?_
      refine g_goto (tgt := 112) E dX9_harsh_108 (by decide) ?_
      exact g_sub [1, 2, 3, 4, 5, 6, 0, 8] rfl (fX9_harsh_w112 E rc31 hrc31 rc49 hrc49 σ x1 x2 x3 x5 x7 (t0 + t1) x10 x9 (1 : Int32) r hf)
set_option maxHeartbeats 4000000 in
set_option maxRecDepth 100000 in
theorem fX9_harsh_w90 {k : gK} {X : gX} (E : gE k X cX9_harsh RX9 wsX9_harsh 12 (some .long) rm_fX9_harsh) (rc31 : St → Int32 → Int32 → Int64 → Int64 → Int32 → Option (Int64 × St)) (hrc31 : ∀ (σ : St) (x1 : Int32) (x2 : Int32) (x3 : Int64) (x5 : Int64) (x7 : Int32) (r : Int64 × St), rc31 σ x1 x2 x3 x5 x7 = some r → G k X 12 (some (.long r.1)) (mw k.2.2.2 r.2) (mw k.2.2.2 σ) [(0, .ref (k.2.2.2.1 0)), (1, .int x1), (2, .int x2), (3, .long x3), (5, .long x5), (7, .int x7)] [] 31) (rc49 : St → Int32 → Int32 → Int64 → Int64 → Int32 → Int32 → Int32 → Int32 → Option (Int64 × St)) (hrc49 : ∀ (σ : St) (x1 : Int32) (x2 : Int32) (x3 : Int64) (x5 : Int64) (x7 : Int32) (x8 : Int32) (x9 : Int32) (x10 : Int32) (r : Int64 × St), rc49 σ x1 x2 x3 x5 x7 x8 x9 x10 = some r → G k X 12 (some (.long r.1)) (mw k.2.2.2 r.2) (mw k.2.2.2 σ) [(0, .ref (k.2.2.2.1 0)), (1, .int x1), (2, .int x2), (3, .long x3), (5, .long x5), (7, .int x7), (8, .int x8), (9, .int x9), (10, .int x10)] [] 49) (σ : St) (x1 : Int32) (x2 : Int32) (x3 : Int64) (x5 : Int64) (x7 : Int32) (x9 : Int32) (x10 : Int32) (x11 : Int32) (t0 : Int32) (r : Int64 × St) (hf : fX9_harsh_b90 rc31 rc49 σ x1 x2 x3 x5 x7 x9 x10 x11 t0 = some r) : G k X 12 (some (.long r.1)) (mw k.2.2.2 r.2) (mw k.2.2.2 σ) [(0, .ref (k.2.2.2.1 0)), (1, .int x1), (2, .int x2), (3, .long x3), (5, .long x5), (7, .int x7), (9, .int x9), (10, .int x10), (11, .int x11)] [.int t0] 90 := by
  unfold fX9_harsh_b90 at hf
  refine g_iconst (v := (0 : Int32)) E dX9_harsh_90 (by decide) ?_
  exact fX9_harsh_w91 E rc31 hrc31 rc49 hrc49 σ x1 x2 x3 x5 x7 x9 x10 x11 t0 (0 : Int32) r hf
set_option maxHeartbeats 4000000 in
set_option maxRecDepth 100000 in
theorem fX9_harsh_w49 {k : gK} {X : gX} (E : gE k X cX9_harsh RX9 wsX9_harsh 12 (some .long) rm_fX9_harsh) (rc31 : St → Int32 → Int32 → Int64 → Int64 → Int32 → Option (Int64 × St)) (hrc31 : ∀ (σ : St) (x1 : Int32) (x2 : Int32) (x3 : Int64) (x5 : Int64) (x7 : Int32) (r : Int64 × St), rc31 σ x1 x2 x3 x5 x7 = some r → G k X 12 (some (.long r.1)) (mw k.2.2.2 r.2) (mw k.2.2.2 σ) [(0, .ref (k.2.2.2.1 0)), (1, .int x1), (2, .int x2), (3, .long x3), (5, .long x5), (7, .int x7)] [] 31) (rc49 : St → Int32 → Int32 → Int64 → Int64 → Int32 → Int32 → Int32 → Int32 → Option (Int64 × St)) (hrc49 : ∀ (σ : St) (x1 : Int32) (x2 : Int32) (x3 : Int64) (x5 : Int64) (x7 : Int32) (x8 : Int32) (x9 : Int32) (x10 : Int32) (r : Int64 × St), rc49 σ x1 x2 x3 x5 x7 x8 x9 x10 = some r → G k X 12 (some (.long r.1)) (mw k.2.2.2 r.2) (mw k.2.2.2 σ) [(0, .ref (k.2.2.2.1 0)), (1, .int x1), (2, .int x2), (3, .long x3), (5, .long x5), (7, .int x7), (8, .int x8), (9, .int x9), (10, .int x10)] [] 49) (σ : St) (x1 : Int32) (x2 : Int32) (x3 : Int64) (x5 : Int64) (x7 : Int32) (x8 : Int32) (x9 : Int32) (x10 : Int32) (r : Int64 × St) (hf : fX9_harsh_b49 rc31 rc49 σ x1 x2 x3 x5 x7 x8 x9 x10 = some r) : G k X 12 (some (.long r.1)) (mw k.2.2.2 r.2) (mw k.2.2.2 σ) [(0, .ref (k.2.2.2.1 0)), (1, .int x1), (2, .int x2), (3, .long x3), (5, .long x5), (7, .int x7), (8, .int x8), (9, .int x9), (10, .int x10)] [] 49 := by
  unfold fX9_harsh_b49 at hf
  refine g_iload E 8 dX9_harsh_49 rfl ?_
  refine g_aload_n E 0 dX9_harsh_51 rfl rfl ?_
  refine g_get (C := RX9) (T := TX9) (N := 20) (ci := 9) E 0 3 (.int (σ.2.1 0)) hi_X9_harsh_X9 (mwG0 _ _) rfl (by decide) hk_X9_harsh_63 rfl dX9_harsh_52 ?_
  refine g_icmp_ge (tgt := 121) E dX9_harsh_55 (by decide) (fun c1 => ?_) (fun c1 => ?_)
  · have hf := gp hf c1
    refine g_aload_n E 0 dX9_harsh_121 rfl rfl ?_
    refine g_get (C := RX9) (T := TX9) (N := 20) (ci := 9) E 0 10 (.ref (k.2.2.2.1 9)) hi_X9_harsh_X9 (mwG0 _ _) rfl (by decide) hk_X9_harsh_34 rfl dX9_harsh_122 ?_
    refine g_iload_n E 1 dX9_harsh_125 rfl rfl ?_
    refine g_iload E 5 dX9_harsh_126 rfl ?_
    obtain ⟨q2, hq3, hf⟩ := gb hf
    refine g_callS (As := [.int x1, .int x7]) (rest := [.ref (k.2.2.2.1 9)]) (n := 2) E (fX9_at_c k σ x1 x7 q2 hq3) gX9_harsh_X9_at rfl rfl rfl (by decide +kernel) ⟨Nat.le_of_ble_eq_true rfl, Nat.le_of_ble_eq_true rfl⟩ rfl rfl (Nat.le_of_ble_eq_true rfl) dX9_harsh_128 ?_
    obtain ⟨hi4, hf⟩ := gd hf
    refine g_iald E 9 (q2.2.1 9) (mwG9 _ _) hi4 dX9_harsh_131 ?_
    refine g_istore E [(10, .int (q2.2.1 9 q2.1.toNatClampNeg)), (0, .ref (k.2.2.2.1 0)), (1, .int x1), (2, .int x2), (3, .long x3), (5, .long x5), (7, .int x7), (8, .int x8), (9, .int x9)] dX9_harsh_132 (by decide) rfl ?_
    refine g_iload E 0 dX9_harsh_134 rfl ?_
    refine g_if_lt (tgt := 172) E dX9_harsh_136 (by decide) (fun c5 => ?_) (fun c5 => ?_)
    · have hf := gp hf c5
      exact g_sub [1, 2, 3, 4, 5, 6] rfl (fX9_harsh_w172 E rc31 hrc31 q2.2 x1 x2 x3 x5 x7 r hf)
    · have hf := gn hf c5
      refine g_iload E 8 dX9_harsh_139 rfl ?_
      refine g_if_le (tgt := 172) E dX9_harsh_141 (by decide) (fun c6 => ?_) (fun c6 => ?_)
      · have hf := gp hf c6
        exact g_sub [1, 2, 3, 4, 5, 6] rfl (fX9_harsh_w172 E rc31 hrc31 q2.2 x1 x2 x3 x5 x7 r hf)
      · have hf := gn hf c6
        refine g_lload_n E 4 dX9_harsh_144 rfl rfl ?_
        refine g_ldc2 (v := (60 : Int64)) E (by decide +kernel) dX9_harsh_145 ?_
        refine g_iload E 0 dX9_harsh_148 rfl ?_
        refine g_i2l E dX9_harsh_150 ?_
        refine g_lmul E dX9_harsh_151 ?_
        refine g_ldc2 (v := (60 : Int64)) E (by decide +kernel) dX9_harsh_152 ?_
        refine g_iload E 7 dX9_harsh_155 rfl ?_
        refine g_i2l E dX9_harsh_157 ?_
        refine g_lmul E dX9_harsh_158 ?_
        refine g_iload E 8 dX9_harsh_159 rfl ?_
        refine g_i2l E dX9_harsh_161 ?_
        obtain ⟨hn7, hf⟩ := gd hf
        refine g_ldiv E hn7 dX9_harsh_162 ?_
        refine g_lsub E dX9_harsh_163 ?_
        refine g_ladd E dX9_harsh_164 ?_
        refine g_lstore_n E [(3, .long (x3 + (((((60 : Int64) * ((q2.2.1 9 q2.1.toNatClampNeg).toInt64))) - (((((60 : Int64) * x8.toInt64)) / x9.toInt64)))))), (10, .int (q2.2.1 9 q2.1.toNatClampNeg)), (0, .ref (k.2.2.2.1 0)), (1, .int x1), (2, .int x2), (5, .long x5), (7, .int x7), (8, .int x8), (9, .int x9)] dX9_harsh_165 rfl (by decide) rfl ?_
        refine g_lload E 5 dX9_harsh_166 rfl ?_
        refine g_lconst (v := (1 : Int64)) E dX9_harsh_168 (by decide) ?_
        refine g_ladd E dX9_harsh_169 ?_
        refine g_lstore E [(5, .long (x5 + (1 : Int64))), (3, .long (x3 + (((((60 : Int64) * ((q2.2.1 9 q2.1.toNatClampNeg).toInt64))) - (((((60 : Int64) * x8.toInt64)) / x9.toInt64)))))), (10, .int (q2.2.1 9 q2.1.toNatClampNeg)), (0, .ref (k.2.2.2.1 0)), (1, .int x1), (2, .int x2), (7, .int x7), (8, .int x8), (9, .int x9)] dX9_harsh_170 (by decide) rfl ?_
        exact g_sub [3, 4, 5, 1, 0, 6] rfl (fX9_harsh_w172 E rc31 hrc31 q2.2 x1 x2 (x3 + (((((60 : Int64) * ((q2.2.1 9 q2.1.toNatClampNeg).toInt64))) - (((((60 : Int64) * x8.toInt64)) / x9.toInt64))))) (x5 + (1 : Int64)) x7 r hf)
  · have hf := gn hf c1
    refine g_aload_n E 0 dX9_harsh_58 rfl rfl ?_
    refine g_get (C := RX9) (T := TX9) (N := 20) (ci := 9) E 0 10 (.ref (k.2.2.2.1 9)) hi_X9_harsh_X9 (mwG0 _ _) rfl (by decide) hk_X9_harsh_34 rfl dX9_harsh_59 ?_
    refine g_iload E 8 dX9_harsh_62 rfl ?_
    refine g_iload E 5 dX9_harsh_64 rfl ?_
    obtain ⟨q8, hq9, hf⟩ := gb hf
    refine g_callS (As := [.int x10, .int x7]) (rest := [.ref (k.2.2.2.1 9)]) (n := 2) E (fX9_at_c k σ x10 x7 q8 hq9) gX9_harsh_X9_at rfl rfl rfl (by decide +kernel) ⟨Nat.le_of_ble_eq_true rfl, Nat.le_of_ble_eq_true rfl⟩ rfl rfl (Nat.le_of_ble_eq_true rfl) dX9_harsh_66 ?_
    obtain ⟨hi10, hf⟩ := gd hf
    refine g_iald E 9 (q8.2.1 9) (mwG9 _ _) hi10 dX9_harsh_69 ?_
    refine g_istore E [(11, .int (q8.2.1 9 q8.1.toNatClampNeg)), (0, .ref (k.2.2.2.1 0)), (1, .int x1), (2, .int x2), (3, .long x3), (5, .long x5), (7, .int x7), (8, .int x8), (9, .int x9), (10, .int x10)] dX9_harsh_70 (by decide) rfl ?_
    refine g_iload E 7 dX9_harsh_72 rfl ?_
    refine g_iload E 9 dX9_harsh_74 rfl ?_
    refine g_iload_n E 2 dX9_harsh_76 rfl rfl ?_
    refine g_icmp_eq (tgt := 90) E dX9_harsh_77 (by decide) (fun c11 => ?_) (fun c11 => ?_)
    · have hf := gp hf c11
      exact g_sub [1, 2, 3, 4, 5, 6, 8, 9, 0] rfl (fX9_harsh_w90 E rc31 hrc31 rc49 hrc49 q8.2 x1 x2 x3 x5 x7 x9 x10 (q8.2.1 9 q8.1.toNatClampNeg) x8 r hf)
    · have hf := gn hf c11
      refine g_iload E 0 dX9_harsh_80 rfl ?_
      refine g_if_lt (tgt := 90) E dX9_harsh_82 (by decide) (fun c12 => ?_) (fun c12 => ?_)
      · have hf := gp hf c12
        exact g_sub [1, 2, 3, 4, 5, 6, 8, 9, 0] rfl (fX9_harsh_w90 E rc31 hrc31 rc49 hrc49 q8.2 x1 x2 x3 x5 x7 x9 x10 (q8.2.1 9 q8.1.toNatClampNeg) x8 r hf)
      · have hf := gn hf c12
        refine g_iload E 0 dX9_harsh_85 rfl ?_
        refine g_goto (tgt := 91) E dX9_harsh_87 (by decide) ?_
        exact g_sub [1, 2, 3, 4, 5, 6, 8, 9, 0] rfl (fX9_harsh_w91 E rc31 hrc31 rc49 hrc49 q8.2 x1 x2 x3 x5 x7 x9 x10 (q8.2.1 9 q8.1.toNatClampNeg) x8 (q8.2.1 9 q8.1.toNatClampNeg) r hf)
theorem fX9_harsh_v49 {k : gK} {X : gX} (E : gE k X cX9_harsh RX9 wsX9_harsh 12 (some .long) rm_fX9_harsh) (rc31 : St → Int32 → Int32 → Int64 → Int64 → Int32 → Option (Int64 × St)) (hrc31 : ∀ (σ : St) (x1 : Int32) (x2 : Int32) (x3 : Int64) (x5 : Int64) (x7 : Int32) (r : Int64 × St), rc31 σ x1 x2 x3 x5 x7 = some r → G k X 12 (some (.long r.1)) (mw k.2.2.2 r.2) (mw k.2.2.2 σ) [(0, .ref (k.2.2.2.1 0)), (1, .int x1), (2, .int x2), (3, .long x3), (5, .long x5), (7, .int x7)] [] 31) : ∀ (n : Nat) (σ : St) (x1 : Int32) (x2 : Int32) (x3 : Int64) (x5 : Int64) (x7 : Int32) (x8 : Int32) (x9 : Int32) (x10 : Int32) (r : Int64 × St), fX9_harsh_l49 rc31 n σ x1 x2 x3 x5 x7 x8 x9 x10 = some r → G k X 12 (some (.long r.1)) (mw k.2.2.2 r.2) (mw k.2.2.2 σ) [(0, .ref (k.2.2.2.1 0)), (1, .int x1), (2, .int x2), (3, .long x3), (5, .long x5), (7, .int x7), (8, .int x8), (9, .int x9), (10, .int x10)] [] 49 := by
  intro n
  induction n with
  | zero => intro σ x1 x2 x3 x5 x7 x8 x9 x10 r hf; cases hf
  | succ n ih => intro σ x1 x2 x3 x5 x7 x8 x9 x10 r hf; exact fX9_harsh_w49 E rc31 hrc31 (fX9_harsh_l49 rc31 n) ih σ x1 x2 x3 x5 x7 x8 x9 x10 r hf
set_option maxHeartbeats 4000000 in
set_option maxRecDepth 100000 in
theorem fX9_harsh_w31 {k : gK} {X : gX} (E : gE k X cX9_harsh RX9 wsX9_harsh 12 (some .long) rm_fX9_harsh) (rc31 : St → Int32 → Int32 → Int64 → Int64 → Int32 → Option (Int64 × St)) (hrc31 : ∀ (σ : St) (x1 : Int32) (x2 : Int32) (x3 : Int64) (x5 : Int64) (x7 : Int32) (r : Int64 × St), rc31 σ x1 x2 x3 x5 x7 = some r → G k X 12 (some (.long r.1)) (mw k.2.2.2 r.2) (mw k.2.2.2 σ) [(0, .ref (k.2.2.2.1 0)), (1, .int x1), (2, .int x2), (3, .long x3), (5, .long x5), (7, .int x7)] [] 31) (σ : St) (x1 : Int32) (x2 : Int32) (x3 : Int64) (x5 : Int64) (x7 : Int32) (r : Int64 × St) (hf : fX9_harsh_b31 rc31 σ x1 x2 x3 x5 x7 = some r) : G k X 12 (some (.long r.1)) (mw k.2.2.2 r.2) (mw k.2.2.2 σ) [(0, .ref (k.2.2.2.1 0)), (1, .int x1), (2, .int x2), (3, .long x3), (5, .long x5), (7, .int x7)] [] 31 := by
  unfold fX9_harsh_b31 at hf
  refine g_iload E 5 dX9_harsh_31 rfl ?_
  refine g_aload_n E 0 dX9_harsh_33 rfl rfl ?_
  refine g_get (C := RX9) (T := TX9) (N := 20) (ci := 9) E 0 9 (.int (σ.2.1 1)) hi_X9_harsh_X9 (mwG0 _ _) rfl (by decide) hk_X9_harsh_67 rfl dX9_harsh_34 ?_
  refine g_icmp_ge (tgt := 178) E dX9_harsh_37 (by decide) (fun c1 => ?_) (fun c1 => ?_)
  · have hf := gp hf c1
    refine g_lload E 4 dX9_harsh_178 rfl ?_
    refine g_lconst (v := (0 : Int64)) E dX9_harsh_180 (by decide) ?_
    refine g_lcmp E dX9_harsh_181 ?_
    refine g_if_ne (tgt := 190) E dX9_harsh_182 (by decide) (fun c2 => ?_) (fun c2 => ?_)
    · have hf := gn hf c2
      refine g_lload_n E 3 dX9_harsh_190 rfl rfl ?_
      refine g_ldc2 (v := (60 : Int64)) E (by decide +kernel) dX9_harsh_191 ?_
      refine g_lload E 4 dX9_harsh_194 rfl ?_
      refine g_lmul E dX9_harsh_196 ?_
      refine g_iload_n E 2 dX9_harsh_197 rfl rfl ?_
      obtain ⟨q3, hq4, hf⟩ := gb hf
      refine g_callS (As := [.long x3, .long ((60 : Int64) * x5), .int x2]) (rest := []) (n := 3) E (fX9_lowest_c k σ x3 (((60 : Int64) * x5)) x2 q3 hq4) gX9_harsh_X9_lowest rfl rfl rfl (by decide +kernel) ⟨Nat.le_of_ble_eq_true rfl, Nat.le_of_ble_eq_true rfl⟩ rfl rfl (Nat.le_of_ble_eq_true rfl) dX9_harsh_198 ?_
      cases hf
      exact g_lret E dX9_harsh_201
    · have hf := gp hf c2
      refine g_iload_n E 2 dX9_harsh_185 rfl rfl ?_
      refine g_i2l E dX9_harsh_186 ?_
      refine g_goto (tgt := 201) E dX9_harsh_187 (by decide) ?_
      cases hf
      exact g_lret E dX9_harsh_201
  · have hf := gn hf c1
    refine g_iconst (v := (0 : Int32)) E dX9_harsh_40 (by decide) ?_
    refine g_istore E [(8, .int (0 : Int32)), (0, .ref (k.2.2.2.1 0)), (1, .int x1), (2, .int x2), (3, .long x3), (5, .long x5), (7, .int x7)] dX9_harsh_41 (by decide) rfl ?_
    refine g_iconst (v := (0 : Int32)) E dX9_harsh_43 (by decide) ?_
    refine g_istore E [(9, .int (0 : Int32)), (8, .int (0 : Int32)), (0, .ref (k.2.2.2.1 0)), (1, .int x1), (2, .int x2), (3, .long x3), (5, .long x5), (7, .int x7)] dX9_harsh_44 (by decide) rfl ?_
    refine g_iconst (v := (0 : Int32)) E dX9_harsh_46 (by decide) ?_
    refine g_istore E [(10, .int (0 : Int32)), (9, .int (0 : Int32)), (8, .int (0 : Int32)), (0, .ref (k.2.2.2.1 0)), (1, .int x1), (2, .int x2), (3, .long x3), (5, .long x5), (7, .int x7)] dX9_harsh_47 (by decide) rfl ?_
    exact g_sub [3, 4, 5, 6, 7, 8, 2, 1, 0] rfl (fX9_harsh_v49 E rc31 hrc31 gF σ x1 x2 x3 x5 x7 (0 : Int32) (0 : Int32) (0 : Int32) r hf)
theorem fX9_harsh_v31 {k : gK} {X : gX} (E : gE k X cX9_harsh RX9 wsX9_harsh 12 (some .long) rm_fX9_harsh) : ∀ (n : Nat) (σ : St) (x1 : Int32) (x2 : Int32) (x3 : Int64) (x5 : Int64) (x7 : Int32) (r : Int64 × St), fX9_harsh_l31 n σ x1 x2 x3 x5 x7 = some r → G k X 12 (some (.long r.1)) (mw k.2.2.2 r.2) (mw k.2.2.2 σ) [(0, .ref (k.2.2.2.1 0)), (1, .int x1), (2, .int x2), (3, .long x3), (5, .long x5), (7, .int x7)] [] 31 := by
  intro n
  induction n with
  | zero => intro σ x1 x2 x3 x5 x7 r hf; cases hf
  | succ n ih => intro σ x1 x2 x3 x5 x7 r hf; exact fX9_harsh_w31 E (fX9_harsh_l31 n) ih σ x1 x2 x3 x5 x7 r hf
set_option maxHeartbeats 4000000 in
set_option maxRecDepth 100000 in
theorem fX9_harsh_c (k : gK) (σ : St) (x1 : Int32) (x2 : Int32) (r : Int64 × St) (hf : fX9_harsh σ x1 x2 = some r) : MC k yX9_harsh wsX9_harsh rm_fX9_harsh [.ref (k.2.2.2.1 0), .int x1, .int x2] (mw k.2.2.2 σ) (some (.long r.1)) (mw k.2.2.2 r.2) := by
  refine MC_of (cc := cX9_harsh) (maxL := 12) (ret := (some .long)) (own := RX9) (lvs := [(0, .ref (k.2.2.2.1 0)), (1, .int x1), (2, .int x2)]) (by decide) rfl rfl (Nat.le_of_ble_eq_true rfl) rfl (fun X E => ?_)
  unfold fX9_harsh at hf
  refine g_aload_n E 0 dX9_harsh_0 rfl rfl ?_
  refine g_iload_n E 1 dX9_harsh_1 rfl rfl ?_
  obtain ⟨q1, hq2, hf⟩ := gb hf
  refine g_callV (C := RX9) (T := TX9) (N := 20) (ci := 9) (As := [.int x1]) (rest := []) (n := 1) E 0 (fX9_isJudge_c k σ x1 q1 hq2) gX9_harsh_X9_isJudge rfl rfl rfl (by decide +kernel) ⟨Nat.le_of_ble_eq_true rfl, Nat.le_of_ble_eq_true rfl⟩ rfl rfl (Nat.le_of_ble_eq_true rfl) rfl (mwG0 _ _) dX9_harsh_2 ?_
  refine g_if_ne (tgt := 12) E dX9_harsh_5 (by decide) (fun c3 => ?_) (fun c3 => ?_)
  · have hf := gn hf c3
    refine g_iload_n E 2 dX9_harsh_12 rfl rfl ?_
    obtain ⟨q4, hq5, hf⟩ := gb hf
    refine g_callS (As := [.int x2]) (rest := []) (n := 1) E (fX9_isPart_c k q1.2 x2 q4 hq5) gX9_harsh_X9_isPart rfl rfl rfl (by decide +kernel) ⟨Nat.le_of_ble_eq_true rfl, Nat.le_of_ble_eq_true rfl⟩ rfl rfl (Nat.le_of_ble_eq_true rfl) dX9_harsh_13 ?_
    refine g_if_ne (tgt := 23) E dX9_harsh_16 (by decide) (fun c6 => ?_) (fun c6 => ?_)
    · have hf := gn hf c6
      refine g_lconst (v := (0 : Int64)) E dX9_harsh_23 (by decide) ?_
      refine g_lstore_n E [(3, .long (0 : Int64)), (0, .ref (k.2.2.2.1 0)), (1, .int x1), (2, .int x2)] dX9_harsh_24 rfl (by decide) rfl ?_
      refine g_lconst (v := (0 : Int64)) E dX9_harsh_25 (by decide) ?_
      refine g_lstore E [(5, .long (0 : Int64)), (3, .long (0 : Int64)), (0, .ref (k.2.2.2.1 0)), (1, .int x1), (2, .int x2)] dX9_harsh_26 (by decide) rfl ?_
      refine g_iconst (v := (0 : Int32)) E dX9_harsh_28 (by decide) ?_
      refine g_istore E [(7, .int (0 : Int32)), (5, .long (0 : Int64)), (3, .long (0 : Int64)), (0, .ref (k.2.2.2.1 0)), (1, .int x1), (2, .int x2)] dX9_harsh_29 (by decide) rfl ?_
      exact g_sub [3, 4, 5, 2, 1, 0] rfl (fX9_harsh_v31 E gF q4.2 x1 x2 (0 : Int64) (0 : Int64) (0 : Int32) r hf)
    · have hf := gp hf c6
      refine g_ldc2 (v := (-1000000000000000002 : Int64)) E (by decide +kernel) dX9_harsh_19 ?_
      cases hf
      exact g_lret E dX9_harsh_22
  · have hf := gp hf c3
    refine g_ldc2 (v := (-1000000000000000001 : Int64)) E (by decide +kernel) dX9_harsh_8 ?_
    cases hf
    exact g_lret E dX9_harsh_11
theorem hi_X9_gave_X9 : ∀ w ∈ wsX90, w ∈ wsX9_gave := by decide +kernel
theorem hk_X9_gave_67 : Cond.fieldLink RX9 67 "PaperMarksModel" "papers" "I" ∈ wsX9_gave := by decide +kernel
theorem hk_X9_gave_25 : Cond.fieldLink RX9 25 "PaperMarksModel" "writers" "[I" ∈ wsX9_gave := by decide +kernel
theorem hk_X9_gave_34 : Cond.fieldLink RX9 34 "PaperMarksModel" "marks" "[I" ∈ wsX9_gave := by decide +kernel
def rm_fX9_gave : Room := { frames := 1, cells := 0, slots := 0, locals := 21 }
set_option maxHeartbeats 4000000 in
set_option maxRecDepth 100000 in
theorem fX9_gave_w49 {k : gK} {X : gX} (E : gE k X cX9_gave RX9 wsX9_gave 5 (some .boolean) rm_fX9_gave) (rc5 : St → Int32 → Int32 → Int32 → Int32 → Option (Int32 × St)) (hrc5 : ∀ (σ : St) (x1 : Int32) (x2 : Int32) (x3 : Int32) (x4 : Int32) (r : Int32 × St), rc5 σ x1 x2 x3 x4 = some r → G k X 5 (some (.int r.1)) (mw k.2.2.2 r.2) (mw k.2.2.2 σ) [(0, .ref (k.2.2.2.1 0)), (1, .int x1), (2, .int x2), (3, .int x3), (4, .int x4)] [] 5) (σ : St) (x1 : Int32) (x2 : Int32) (x4 : Int32) (t0 : Int32) (r : Int32 × St) (hf : fX9_gave_b49 rc5 σ x1 x2 x4 t0 = some r) : G k X 5 (some (.int r.1)) (mw k.2.2.2 r.2) (mw k.2.2.2 σ) [(0, .ref (k.2.2.2.1 0)), (1, .int x1), (2, .int x2), (4, .int x4)] [.int t0] 49 := by
  unfold fX9_gave_b49 at hf
  refine g_istore_n E [(3, .int t0), (0, .ref (k.2.2.2.1 0)), (1, .int x1), (2, .int x2), (4, .int x4)] dX9_gave_49 rfl (by decide) rfl ?_
  refine g_iinc E 4 [(4, .int (x4 + (1 : Int32))), (3, .int t0), (0, .ref (k.2.2.2.1 0)), (1, .int x1), (2, .int x2)] (x4 + (1 : Int32)) dX9_gave_50 rfl (by rfl) (by decide) rfl ?_
  refine g_goto (tgt := 5) E dX9_gave_53 (by decide) ?_
  exact g_sub [2, 3, 4, 1, 0] rfl (hrc5 σ x1 x2 t0 (x4 + (1 : Int32)) r hf)
set_option maxHeartbeats 4000000 in
set_option maxRecDepth 100000 in
theorem fX9_gave_w44 {k : gK} {X : gX} (E : gE k X cX9_gave RX9 wsX9_gave 5 (some .boolean) rm_fX9_gave) (rc5 : St → Int32 → Int32 → Int32 → Int32 → Option (Int32 × St)) (hrc5 : ∀ (σ : St) (x1 : Int32) (x2 : Int32) (x3 : Int32) (x4 : Int32) (r : Int32 × St), rc5 σ x1 x2 x3 x4 = some r → G k X 5 (some (.int r.1)) (mw k.2.2.2 r.2) (mw k.2.2.2 σ) [(0, .ref (k.2.2.2.1 0)), (1, .int x1), (2, .int x2), (3, .int x3), (4, .int x4)] [] 5) (σ : St) (x1 : Int32) (x2 : Int32) (x4 : Int32) (r : Int32 × St) (hf : fX9_gave_b44 rc5 σ x1 x2 x4 = some r) : G k X 5 (some (.int r.1)) (mw k.2.2.2 r.2) (mw k.2.2.2 σ) [(0, .ref (k.2.2.2.1 0)), (1, .int x1), (2, .int x2), (4, .int x4)] [] 44 := by
  unfold fX9_gave_b44 at hf
  refine g_iconst (v := (1 : Int32)) E dX9_gave_44 (by decide) ?_
  refine g_goto (tgt := 49) E dX9_gave_45 (by decide) ?_
  exact fX9_gave_w49 E rc5 hrc5 σ x1 x2 x4 (1 : Int32) r hf
set_option maxHeartbeats 4000000 in
set_option maxRecDepth 100000 in
theorem fX9_gave_w48 {k : gK} {X : gX} (E : gE k X cX9_gave RX9 wsX9_gave 5 (some .boolean) rm_fX9_gave) (rc5 : St → Int32 → Int32 → Int32 → Int32 → Option (Int32 × St)) (hrc5 : ∀ (σ : St) (x1 : Int32) (x2 : Int32) (x3 : Int32) (x4 : Int32) (r : Int32 × St), rc5 σ x1 x2 x3 x4 = some r → G k X 5 (some (.int r.1)) (mw k.2.2.2 r.2) (mw k.2.2.2 σ) [(0, .ref (k.2.2.2.1 0)), (1, .int x1), (2, .int x2), (3, .int x3), (4, .int x4)] [] 5) (σ : St) (x1 : Int32) (x2 : Int32) (x4 : Int32) (r : Int32 × St) (hf : fX9_gave_b48 rc5 σ x1 x2 x4 = some r) : G k X 5 (some (.int r.1)) (mw k.2.2.2 r.2) (mw k.2.2.2 σ) [(0, .ref (k.2.2.2.1 0)), (1, .int x1), (2, .int x2), (4, .int x4)] [] 48 := by
  unfold fX9_gave_b48 at hf
  refine g_iconst (v := (0 : Int32)) E dX9_gave_48 (by decide) ?_
  exact fX9_gave_w49 E rc5 hrc5 σ x1 x2 x4 (0 : Int32) r hf
set_option maxHeartbeats 4000000 in
set_option maxRecDepth 100000 in
theorem fX9_gave_w5 {k : gK} {X : gX} (E : gE k X cX9_gave RX9 wsX9_gave 5 (some .boolean) rm_fX9_gave) (rc5 : St → Int32 → Int32 → Int32 → Int32 → Option (Int32 × St)) (hrc5 : ∀ (σ : St) (x1 : Int32) (x2 : Int32) (x3 : Int32) (x4 : Int32) (r : Int32 × St), rc5 σ x1 x2 x3 x4 = some r → G k X 5 (some (.int r.1)) (mw k.2.2.2 r.2) (mw k.2.2.2 σ) [(0, .ref (k.2.2.2.1 0)), (1, .int x1), (2, .int x2), (3, .int x3), (4, .int x4)] [] 5) (σ : St) (x1 : Int32) (x2 : Int32) (x3 : Int32) (x4 : Int32) (r : Int32 × St) (hf : fX9_gave_b5 rc5 σ x1 x2 x3 x4 = some r) : G k X 5 (some (.int r.1)) (mw k.2.2.2 r.2) (mw k.2.2.2 σ) [(0, .ref (k.2.2.2.1 0)), (1, .int x1), (2, .int x2), (3, .int x3), (4, .int x4)] [] 5 := by
  unfold fX9_gave_b5 at hf
  refine g_iload E 4 dX9_gave_5 rfl ?_
  refine g_aload_n E 0 dX9_gave_7 rfl rfl ?_
  refine g_get (C := RX9) (T := TX9) (N := 20) (ci := 9) E 0 9 (.int (σ.2.1 1)) hi_X9_gave_X9 (mwG0 _ _) rfl (by decide) hk_X9_gave_67 rfl dX9_gave_8 ?_
  refine g_icmp_ge (tgt := 56) E dX9_gave_11 (by decide) (fun c1 => ?_) (fun c1 => ?_)
  · have hf := gp hf c1
    refine g_iload_n E 3 dX9_gave_56 rfl rfl ?_
    obtain ⟨hv2, hf⟩ := gd hf
    cases hf
    exact g_zret E hv2 dX9_gave_57
  · have hf := gn hf c1
    refine g_iload_n E 3 dX9_gave_14 rfl rfl ?_
    refine g_if_ne (tgt := 44) E dX9_gave_15 (by decide) (fun c3 => ?_) (fun c3 => ?_)
    · have hf := gn hf c3
      exact g_sub [0, 1, 2, 4] rfl (fX9_gave_w44 E rc5 hrc5 σ x1 x2 x4 r hf)
    · have hf := gp hf c3
      refine g_aload_n E 0 dX9_gave_18 rfl rfl ?_
      refine g_get (C := RX9) (T := TX9) (N := 20) (ci := 9) E 0 6 (.ref (k.2.2.2.1 6)) hi_X9_gave_X9 (mwG0 _ _) rfl (by decide) hk_X9_gave_25 rfl dX9_gave_19 ?_
      refine g_iload E 4 dX9_gave_22 rfl ?_
      obtain ⟨hi4, hf⟩ := gd hf
      refine g_iald E 6 (σ.1 6) (mwG6 _ _) hi4 dX9_gave_24 ?_
      refine g_iload_n E 2 dX9_gave_25 rfl rfl ?_
      refine g_icmp_ne (tgt := 48) E dX9_gave_26 (by decide) (fun c5 => ?_) (fun c5 => ?_)
      · have hf := gn hf c5
        exact g_sub [0, 1, 2, 4] rfl (fX9_gave_w48 E rc5 hrc5 σ x1 x2 x4 r hf)
      · have hf := gp hf c5
        refine g_aload_n E 0 dX9_gave_29 rfl rfl ?_
        refine g_get (C := RX9) (T := TX9) (N := 20) (ci := 9) E 0 10 (.ref (k.2.2.2.1 9)) hi_X9_gave_X9 (mwG0 _ _) rfl (by decide) hk_X9_gave_34 rfl dX9_gave_30 ?_
        refine g_iload_n E 1 dX9_gave_33 rfl rfl ?_
        refine g_iload E 4 dX9_gave_34 rfl ?_
        obtain ⟨q6, hq7, hf⟩ := gb hf
        refine g_callS (As := [.int x1, .int x4]) (rest := [.ref (k.2.2.2.1 9)]) (n := 2) E (fX9_at_c k σ x1 x4 q6 hq7) gX9_gave_X9_at rfl rfl rfl (by decide +kernel) ⟨Nat.le_of_ble_eq_true rfl, Nat.le_of_ble_eq_true rfl⟩ rfl rfl (Nat.le_of_ble_eq_true rfl) dX9_gave_36 ?_
        obtain ⟨hi8, hf⟩ := gd hf
        refine g_iald E 9 (q6.2.1 9) (mwG9 _ _) hi8 dX9_gave_39 ?_
        refine g_iconst (v := (4 : Int32)) E dX9_gave_40 (by decide) ?_
        refine g_icmp_lt (tgt := 48) E dX9_gave_41 (by decide) (fun c9 => ?_) (fun c9 => ?_)
        · have hf := gp hf c9
          exact g_sub [0, 1, 2, 4] rfl (fX9_gave_w48 E rc5 hrc5 q6.2 x1 x2 x4 r hf)
        · have hf := gn hf c9
          exact g_sub [0, 1, 2, 4] rfl (fX9_gave_w44 E rc5 hrc5 q6.2 x1 x2 x4 r hf)
theorem fX9_gave_v5 {k : gK} {X : gX} (E : gE k X cX9_gave RX9 wsX9_gave 5 (some .boolean) rm_fX9_gave) : ∀ (n : Nat) (σ : St) (x1 : Int32) (x2 : Int32) (x3 : Int32) (x4 : Int32) (r : Int32 × St), fX9_gave_l5 n σ x1 x2 x3 x4 = some r → G k X 5 (some (.int r.1)) (mw k.2.2.2 r.2) (mw k.2.2.2 σ) [(0, .ref (k.2.2.2.1 0)), (1, .int x1), (2, .int x2), (3, .int x3), (4, .int x4)] [] 5 := by
  intro n
  induction n with
  | zero => intro σ x1 x2 x3 x4 r hf; cases hf
  | succ n ih => intro σ x1 x2 x3 x4 r hf; exact fX9_gave_w5 E (fX9_gave_l5 n) ih σ x1 x2 x3 x4 r hf
set_option maxHeartbeats 4000000 in
set_option maxRecDepth 100000 in
theorem fX9_gave_c (k : gK) (σ : St) (x1 : Int32) (x2 : Int32) (r : Int32 × St) (hf : fX9_gave σ x1 x2 = some r) : MC k yX9_gave wsX9_gave rm_fX9_gave [.ref (k.2.2.2.1 0), .int x1, .int x2] (mw k.2.2.2 σ) (some (.int r.1)) (mw k.2.2.2 r.2) := by
  refine MC_of (cc := cX9_gave) (maxL := 5) (ret := (some .boolean)) (own := RX9) (lvs := [(0, .ref (k.2.2.2.1 0)), (1, .int x1), (2, .int x2)]) (by decide) rfl rfl (Nat.le_of_ble_eq_true rfl) rfl (fun X E => ?_)
  unfold fX9_gave at hf
  refine g_iconst (v := (0 : Int32)) E dX9_gave_0 (by decide) ?_
  refine g_istore_n E [(3, .int (0 : Int32)), (0, .ref (k.2.2.2.1 0)), (1, .int x1), (2, .int x2)] dX9_gave_1 rfl (by decide) rfl ?_
  refine g_iconst (v := (0 : Int32)) E dX9_gave_2 (by decide) ?_
  refine g_istore E [(4, .int (0 : Int32)), (3, .int (0 : Int32)), (0, .ref (k.2.2.2.1 0)), (1, .int x1), (2, .int x2)] dX9_gave_3 (by decide) rfl ?_
  exact g_sub [2, 3, 4, 1, 0] rfl (fX9_gave_v5 E gF σ x1 x2 (0 : Int32) (0 : Int32) r hf)
theorem hi_X9_swap_X9 : ∀ w ∈ wsX90, w ∈ wsX9_swap := by decide +kernel
theorem hk_X9_swap_63 : Cond.fieldLink RX9 63 "PaperMarksModel" "judges" "I" ∈ wsX9_swap := by decide +kernel
def rm_fX9_swap : Room := { frames := 2, cells := 0, slots := 0, locals := 45 }
set_option maxHeartbeats 4000000 in
set_option maxRecDepth 100000 in
theorem fX9_swap_w62 {k : gK} {X : gX} (E : gE k X cX9_swap RX9 wsX9_swap 5 (some .int) rm_fX9_swap) (rc4 : St → Int32 → Int32 → Int32 → Option (Int32 × St)) (hrc4 : ∀ (σ : St) (x1 : Int32) (x2 : Int32) (x3 : Int32) (r : Int32 × St), rc4 σ x1 x2 x3 = some r → G k X 5 (some (.int r.1)) (mw k.2.2.2 r.2) (mw k.2.2.2 σ) [(0, .ref (k.2.2.2.1 0)), (1, .int x1), (2, .int x2), (3, .int x3)] [] 4) (rc17 : St → Int32 → Int32 → Int32 → Int32 → Option (Int32 × St)) (hrc17 : ∀ (σ : St) (x1 : Int32) (x2 : Int32) (x3 : Int32) (x4 : Int32) (r : Int32 × St), rc17 σ x1 x2 x3 x4 = some r → G k X 5 (some (.int r.1)) (mw k.2.2.2 r.2) (mw k.2.2.2 σ) [(0, .ref (k.2.2.2.1 0)), (1, .int x1), (2, .int x2), (3, .int x3), (4, .int x4)] [] 17) (σ : St) (x1 : Int32) (x2 : Int32) (x3 : Int32) (x4 : Int32) (r : Int32 × St) (hf : fX9_swap_b62 rc4 rc17 σ x1 x2 x3 x4 = some r) : G k X 5 (some (.int r.1)) (mw k.2.2.2 r.2) (mw k.2.2.2 σ) [(0, .ref (k.2.2.2.1 0)), (1, .int x1), (2, .int x2), (3, .int x3), (4, .int x4)] [] 62 := by
  unfold fX9_swap_b62 at hf
  refine g_iinc E 4 [(4, .int (x4 + (1 : Int32))), (0, .ref (k.2.2.2.1 0)), (1, .int x1), (2, .int x2), (3, .int x3)] (x4 + (1 : Int32)) dX9_swap_62 rfl (by rfl) (by decide) rfl ?_
  refine g_goto (tgt := 17) E dX9_swap_65 (by decide) ?_
  exact g_sub [1, 2, 3, 4, 0] rfl (hrc17 σ x1 x2 x3 (x4 + (1 : Int32)) r hf)
set_option maxHeartbeats 4000000 in
set_option maxRecDepth 100000 in
theorem fX9_swap_w17 {k : gK} {X : gX} (E : gE k X cX9_swap RX9 wsX9_swap 5 (some .int) rm_fX9_swap) (rc4 : St → Int32 → Int32 → Int32 → Option (Int32 × St)) (hrc4 : ∀ (σ : St) (x1 : Int32) (x2 : Int32) (x3 : Int32) (r : Int32 × St), rc4 σ x1 x2 x3 = some r → G k X 5 (some (.int r.1)) (mw k.2.2.2 r.2) (mw k.2.2.2 σ) [(0, .ref (k.2.2.2.1 0)), (1, .int x1), (2, .int x2), (3, .int x3)] [] 4) (rc17 : St → Int32 → Int32 → Int32 → Int32 → Option (Int32 × St)) (hrc17 : ∀ (σ : St) (x1 : Int32) (x2 : Int32) (x3 : Int32) (x4 : Int32) (r : Int32 × St), rc17 σ x1 x2 x3 x4 = some r → G k X 5 (some (.int r.1)) (mw k.2.2.2 r.2) (mw k.2.2.2 σ) [(0, .ref (k.2.2.2.1 0)), (1, .int x1), (2, .int x2), (3, .int x3), (4, .int x4)] [] 17) (σ : St) (x1 : Int32) (x2 : Int32) (x3 : Int32) (x4 : Int32) (r : Int32 × St) (hf : fX9_swap_b17 rc4 rc17 σ x1 x2 x3 x4 = some r) : G k X 5 (some (.int r.1)) (mw k.2.2.2 r.2) (mw k.2.2.2 σ) [(0, .ref (k.2.2.2.1 0)), (1, .int x1), (2, .int x2), (3, .int x3), (4, .int x4)] [] 17 := by
  unfold fX9_swap_b17 at hf
  refine g_iload E 4 dX9_swap_17 rfl ?_
  refine g_aload_n E 0 dX9_swap_19 rfl rfl ?_
  refine g_get (C := RX9) (T := TX9) (N := 20) (ci := 9) E 0 3 (.int (σ.2.1 0)) hi_X9_swap_X9 (mwG0 _ _) rfl (by decide) hk_X9_swap_63 rfl dX9_swap_20 ?_
  refine g_icmp_ge (tgt := 68) E dX9_swap_23 (by decide) (fun c1 => ?_) (fun c1 => ?_)
  · have hf := gp hf c1
    refine g_iinc E 3 [(3, .int (x3 + (1 : Int32))), (0, .ref (k.2.2.2.1 0)), (1, .int x1), (2, .int x2), (4, .int x4)] (x3 + (1 : Int32)) dX9_swap_68 rfl (by rfl) (by decide) rfl ?_
    refine g_goto (tgt := 4) E dX9_swap_71 (by decide) ?_
    exact g_sub [1, 2, 3, 0] rfl (hrc4 σ x1 x2 (x3 + (1 : Int32)) r hf)
  · have hf := gn hf c1
    refine g_aload_n E 0 dX9_swap_26 rfl rfl ?_
    refine g_iload_n E 3 dX9_swap_27 rfl rfl ?_
    refine g_iload E 4 dX9_swap_28 rfl ?_
    obtain ⟨q2, hq3, hf⟩ := gb hf
    refine g_callV (C := RX9) (T := TX9) (N := 20) (ci := 9) (As := [.int x3, .int x4]) (rest := []) (n := 2) E 0 (fX9_gave_c k σ x3 x4 q2 hq3) gX9_swap_X9_gave rfl rfl rfl (by decide +kernel) ⟨Nat.le_of_ble_eq_true rfl, Nat.le_of_ble_eq_true rfl⟩ rfl rfl (Nat.le_of_ble_eq_true rfl) rfl (mwG0 _ _) dX9_swap_30 ?_
    refine g_if_eq (tgt := 62) E dX9_swap_33 (by decide) (fun c4 => ?_) (fun c4 => ?_)
    · have hf := gp hf c4
      exact fX9_swap_w62 E rc4 hrc4 rc17 hrc17 q2.2 x1 x2 x3 x4 r hf
    · have hf := gn hf c4
      refine g_aload_n E 0 dX9_swap_36 rfl rfl ?_
      refine g_iload E 4 dX9_swap_37 rfl ?_
      refine g_iload_n E 3 dX9_swap_39 rfl rfl ?_
      obtain ⟨q5, hq6, hf⟩ := gb hf
      refine g_callV (C := RX9) (T := TX9) (N := 20) (ci := 9) (As := [.int x4, .int x3]) (rest := []) (n := 2) E 0 (fX9_gave_c k q2.2 x4 x3 q5 hq6) gX9_swap_X9_gave rfl rfl rfl (by decide +kernel) ⟨Nat.le_of_ble_eq_true rfl, Nat.le_of_ble_eq_true rfl⟩ rfl rfl (Nat.le_of_ble_eq_true rfl) rfl (mwG0 _ _) dX9_swap_40 ?_
      refine g_if_eq (tgt := 62) E dX9_swap_43 (by decide) (fun c7 => ?_) (fun c7 => ?_)
      · have hf := gp hf c7
        exact fX9_swap_w62 E rc4 hrc4 rc17 hrc17 q5.2 x1 x2 x3 x4 r hf
      · have hf := gn hf c7
        refine g_iload_n E 2 dX9_swap_46 rfl rfl ?_
        refine g_iload_n E 1 dX9_swap_47 rfl rfl ?_
        refine g_icmp_ne (tgt := 59) E dX9_swap_48 (by decide) (fun c8 => ?_) (fun c8 => ?_)
        · have hf := gn hf c8
          refine g_iinc E 2 [(2, .int (x2 + (1 : Int32))), (0, .ref (k.2.2.2.1 0)), (1, .int x1), (3, .int x3), (4, .int x4)] (x2 + (1 : Int32)) dX9_swap_59 rfl (by rfl) (by decide) rfl ?_
          exact g_sub [1, 2, 0, 3, 4] rfl (fX9_swap_w62 E rc4 hrc4 rc17 hrc17 q5.2 x1 (x2 + (1 : Int32)) x3 x4 r hf)
        · have hf := gp hf c8
          refine g_bipush (v := (10 : Int32)) E dX9_swap_51 (by decide) ?_
          refine g_iload_n E 3 dX9_swap_53 rfl rfl ?_
          refine g_imul E dX9_swap_54 ?_
          refine g_iload E 4 dX9_swap_55 rfl ?_
          refine g_iadd E dX9_swap_57 ?_
          cases hf
          exact g_iret E dX9_swap_58
theorem fX9_swap_v17 {k : gK} {X : gX} (E : gE k X cX9_swap RX9 wsX9_swap 5 (some .int) rm_fX9_swap) (rc4 : St → Int32 → Int32 → Int32 → Option (Int32 × St)) (hrc4 : ∀ (σ : St) (x1 : Int32) (x2 : Int32) (x3 : Int32) (r : Int32 × St), rc4 σ x1 x2 x3 = some r → G k X 5 (some (.int r.1)) (mw k.2.2.2 r.2) (mw k.2.2.2 σ) [(0, .ref (k.2.2.2.1 0)), (1, .int x1), (2, .int x2), (3, .int x3)] [] 4) : ∀ (n : Nat) (σ : St) (x1 : Int32) (x2 : Int32) (x3 : Int32) (x4 : Int32) (r : Int32 × St), fX9_swap_l17 rc4 n σ x1 x2 x3 x4 = some r → G k X 5 (some (.int r.1)) (mw k.2.2.2 r.2) (mw k.2.2.2 σ) [(0, .ref (k.2.2.2.1 0)), (1, .int x1), (2, .int x2), (3, .int x3), (4, .int x4)] [] 17 := by
  intro n
  induction n with
  | zero => intro σ x1 x2 x3 x4 r hf; cases hf
  | succ n ih => intro σ x1 x2 x3 x4 r hf; exact fX9_swap_w17 E rc4 hrc4 (fX9_swap_l17 rc4 n) ih σ x1 x2 x3 x4 r hf
set_option maxHeartbeats 4000000 in
set_option maxRecDepth 100000 in
theorem fX9_swap_w4 {k : gK} {X : gX} (E : gE k X cX9_swap RX9 wsX9_swap 5 (some .int) rm_fX9_swap) (rc4 : St → Int32 → Int32 → Int32 → Option (Int32 × St)) (hrc4 : ∀ (σ : St) (x1 : Int32) (x2 : Int32) (x3 : Int32) (r : Int32 × St), rc4 σ x1 x2 x3 = some r → G k X 5 (some (.int r.1)) (mw k.2.2.2 r.2) (mw k.2.2.2 σ) [(0, .ref (k.2.2.2.1 0)), (1, .int x1), (2, .int x2), (3, .int x3)] [] 4) (σ : St) (x1 : Int32) (x2 : Int32) (x3 : Int32) (r : Int32 × St) (hf : fX9_swap_b4 rc4 σ x1 x2 x3 = some r) : G k X 5 (some (.int r.1)) (mw k.2.2.2 r.2) (mw k.2.2.2 σ) [(0, .ref (k.2.2.2.1 0)), (1, .int x1), (2, .int x2), (3, .int x3)] [] 4 := by
  unfold fX9_swap_b4 at hf
  refine g_iload_n E 3 dX9_swap_4 rfl rfl ?_
  refine g_aload_n E 0 dX9_swap_5 rfl rfl ?_
  refine g_get (C := RX9) (T := TX9) (N := 20) (ci := 9) E 0 3 (.int (σ.2.1 0)) hi_X9_swap_X9 (mwG0 _ _) rfl (by decide) hk_X9_swap_63 rfl dX9_swap_6 ?_
  refine g_icmp_ge (tgt := 74) E dX9_swap_9 (by decide) (fun c1 => ?_) (fun c1 => ?_)
  · have hf := gp hf c1
    refine g_iload_n E 1 dX9_swap_74 rfl rfl ?_
    refine g_iconst (v := (-1 : Int32)) E dX9_swap_75 (by decide) ?_
    refine g_icmp_ne (tgt := 83) E dX9_swap_76 (by decide) (fun c2 => ?_) (fun c2 => ?_)
    · have hf := gn hf c2
      refine g_bipush (v := (-6 : Int32)) E dX9_swap_83 (by decide) ?_
      cases hf
      exact g_iret E dX9_swap_85
    · have hf := gp hf c2
      refine g_iload_n E 2 dX9_swap_79 rfl rfl ?_
      refine g_goto (tgt := 85) E dX9_swap_80 (by decide) ?_
      cases hf
      exact g_iret E dX9_swap_85
  · have hf := gn hf c1
    refine g_iload_n E 3 dX9_swap_12 rfl rfl ?_
    refine g_iconst (v := (1 : Int32)) E dX9_swap_13 (by decide) ?_
    refine g_iadd E dX9_swap_14 ?_
    refine g_istore E [(4, .int (x3 + (1 : Int32))), (0, .ref (k.2.2.2.1 0)), (1, .int x1), (2, .int x2), (3, .int x3)] dX9_swap_15 (by decide) rfl ?_
    exact g_sub [1, 2, 3, 4, 0] rfl (fX9_swap_v17 E rc4 hrc4 gF σ x1 x2 x3 (x3 + (1 : Int32)) r hf)
theorem fX9_swap_v4 {k : gK} {X : gX} (E : gE k X cX9_swap RX9 wsX9_swap 5 (some .int) rm_fX9_swap) : ∀ (n : Nat) (σ : St) (x1 : Int32) (x2 : Int32) (x3 : Int32) (r : Int32 × St), fX9_swap_l4 n σ x1 x2 x3 = some r → G k X 5 (some (.int r.1)) (mw k.2.2.2 r.2) (mw k.2.2.2 σ) [(0, .ref (k.2.2.2.1 0)), (1, .int x1), (2, .int x2), (3, .int x3)] [] 4 := by
  intro n
  induction n with
  | zero => intro σ x1 x2 x3 r hf; cases hf
  | succ n ih => intro σ x1 x2 x3 r hf; exact fX9_swap_w4 E (fX9_swap_l4 n) ih σ x1 x2 x3 r hf
set_option maxHeartbeats 4000000 in
set_option maxRecDepth 100000 in
theorem fX9_swap_c (k : gK) (σ : St) (x1 : Int32) (r : Int32 × St) (hf : fX9_swap σ x1 = some r) : MC k yX9_swap wsX9_swap rm_fX9_swap [.ref (k.2.2.2.1 0), .int x1] (mw k.2.2.2 σ) (some (.int r.1)) (mw k.2.2.2 r.2) := by
  refine MC_of (cc := cX9_swap) (maxL := 5) (ret := (some .int)) (own := RX9) (lvs := [(0, .ref (k.2.2.2.1 0)), (1, .int x1)]) (by decide) rfl rfl (Nat.le_of_ble_eq_true rfl) rfl (fun X E => ?_)
  unfold fX9_swap at hf
  refine g_iconst (v := (0 : Int32)) E dX9_swap_0 (by decide) ?_
  refine g_istore_n E [(2, .int (0 : Int32)), (0, .ref (k.2.2.2.1 0)), (1, .int x1)] dX9_swap_1 rfl (by decide) rfl ?_
  refine g_iconst (v := (0 : Int32)) E dX9_swap_2 (by decide) ?_
  refine g_istore_n E [(3, .int (0 : Int32)), (2, .int (0 : Int32)), (0, .ref (k.2.2.2.1 0)), (1, .int x1)] dX9_swap_3 rfl (by decide) rfl ?_
  exact g_sub [2, 3, 1, 0] rfl (fX9_swap_v4 E gF σ x1 (0 : Int32) (0 : Int32) r hf)
theorem hi_X9_ring_X9 : ∀ w ∈ wsX90, w ∈ wsX9_ring := by decide +kernel
theorem hk_X9_ring_63 : Cond.fieldLink RX9 63 "PaperMarksModel" "judges" "I" ∈ wsX9_ring := by decide +kernel
def rm_fX9_ring : Room := { frames := 2, cells := 0, slots := 0, locals := 45 }
set_option maxHeartbeats 4000000 in
set_option maxRecDepth 100000 in
theorem fX9_ring_w100 {k : gK} {X : gX} (E : gE k X cX9_ring RX9 wsX9_ring 6 (some .int) rm_fX9_ring) (rc4 : St → Int32 → Int32 → Int32 → Option (Int32 × St)) (hrc4 : ∀ (σ : St) (x1 : Int32) (x2 : Int32) (x3 : Int32) (r : Int32 × St), rc4 σ x1 x2 x3 = some r → G k X 6 (some (.int r.1)) (mw k.2.2.2 r.2) (mw k.2.2.2 σ) [(0, .ref (k.2.2.2.1 0)), (1, .int x1), (2, .int x2), (3, .int x3)] [] 4) (rc17 : St → Int32 → Int32 → Int32 → Int32 → Option (Int32 × St)) (hrc17 : ∀ (σ : St) (x1 : Int32) (x2 : Int32) (x3 : Int32) (x4 : Int32) (r : Int32 × St), rc17 σ x1 x2 x3 x4 = some r → G k X 6 (some (.int r.1)) (mw k.2.2.2 r.2) (mw k.2.2.2 σ) [(0, .ref (k.2.2.2.1 0)), (1, .int x1), (2, .int x2), (3, .int x3), (4, .int x4)] [] 17) (rc31 : St → Int32 → Int32 → Int32 → Int32 → Int32 → Option (Int32 × St)) (hrc31 : ∀ (σ : St) (x1 : Int32) (x2 : Int32) (x3 : Int32) (x4 : Int32) (x5 : Int32) (r : Int32 × St), rc31 σ x1 x2 x3 x4 x5 = some r → G k X 6 (some (.int r.1)) (mw k.2.2.2 r.2) (mw k.2.2.2 σ) [(0, .ref (k.2.2.2.1 0)), (1, .int x1), (2, .int x2), (3, .int x3), (4, .int x4), (5, .int x5)] [] 31) (σ : St) (x1 : Int32) (x2 : Int32) (x3 : Int32) (x4 : Int32) (x5 : Int32) (r : Int32 × St) (hf : fX9_ring_b100 rc4 rc17 rc31 σ x1 x2 x3 x4 x5 = some r) : G k X 6 (some (.int r.1)) (mw k.2.2.2 r.2) (mw k.2.2.2 σ) [(0, .ref (k.2.2.2.1 0)), (1, .int x1), (2, .int x2), (3, .int x3), (4, .int x4), (5, .int x5)] [] 100 := by
  unfold fX9_ring_b100 at hf
  refine g_iinc E 5 [(5, .int (x5 + (1 : Int32))), (0, .ref (k.2.2.2.1 0)), (1, .int x1), (2, .int x2), (3, .int x3), (4, .int x4)] (x5 + (1 : Int32)) dX9_ring_100 rfl (by rfl) (by decide) rfl ?_
  refine g_goto (tgt := 31) E dX9_ring_103 (by decide) ?_
  exact g_sub [1, 2, 3, 4, 5, 0] rfl (hrc31 σ x1 x2 x3 x4 (x5 + (1 : Int32)) r hf)
set_option maxHeartbeats 4000000 in
set_option maxRecDepth 100000 in
theorem fX9_ring_w31 {k : gK} {X : gX} (E : gE k X cX9_ring RX9 wsX9_ring 6 (some .int) rm_fX9_ring) (rc4 : St → Int32 → Int32 → Int32 → Option (Int32 × St)) (hrc4 : ∀ (σ : St) (x1 : Int32) (x2 : Int32) (x3 : Int32) (r : Int32 × St), rc4 σ x1 x2 x3 = some r → G k X 6 (some (.int r.1)) (mw k.2.2.2 r.2) (mw k.2.2.2 σ) [(0, .ref (k.2.2.2.1 0)), (1, .int x1), (2, .int x2), (3, .int x3)] [] 4) (rc17 : St → Int32 → Int32 → Int32 → Int32 → Option (Int32 × St)) (hrc17 : ∀ (σ : St) (x1 : Int32) (x2 : Int32) (x3 : Int32) (x4 : Int32) (r : Int32 × St), rc17 σ x1 x2 x3 x4 = some r → G k X 6 (some (.int r.1)) (mw k.2.2.2 r.2) (mw k.2.2.2 σ) [(0, .ref (k.2.2.2.1 0)), (1, .int x1), (2, .int x2), (3, .int x3), (4, .int x4)] [] 17) (rc31 : St → Int32 → Int32 → Int32 → Int32 → Int32 → Option (Int32 × St)) (hrc31 : ∀ (σ : St) (x1 : Int32) (x2 : Int32) (x3 : Int32) (x4 : Int32) (x5 : Int32) (r : Int32 × St), rc31 σ x1 x2 x3 x4 x5 = some r → G k X 6 (some (.int r.1)) (mw k.2.2.2 r.2) (mw k.2.2.2 σ) [(0, .ref (k.2.2.2.1 0)), (1, .int x1), (2, .int x2), (3, .int x3), (4, .int x4), (5, .int x5)] [] 31) (σ : St) (x1 : Int32) (x2 : Int32) (x3 : Int32) (x4 : Int32) (x5 : Int32) (r : Int32 × St) (hf : fX9_ring_b31 rc4 rc17 rc31 σ x1 x2 x3 x4 x5 = some r) : G k X 6 (some (.int r.1)) (mw k.2.2.2 r.2) (mw k.2.2.2 σ) [(0, .ref (k.2.2.2.1 0)), (1, .int x1), (2, .int x2), (3, .int x3), (4, .int x4), (5, .int x5)] [] 31 := by
  unfold fX9_ring_b31 at hf
  refine g_iload E 5 dX9_ring_31 rfl ?_
  refine g_aload_n E 0 dX9_ring_33 rfl rfl ?_
  refine g_get (C := RX9) (T := TX9) (N := 20) (ci := 9) E 0 3 (.int (σ.2.1 0)) hi_X9_ring_X9 (mwG0 _ _) rfl (by decide) hk_X9_ring_63 rfl dX9_ring_34 ?_
  refine g_icmp_ge (tgt := 106) E dX9_ring_37 (by decide) (fun c1 => ?_) (fun c1 => ?_)
  · have hf := gp hf c1
    refine g_iinc E 4 [(4, .int (x4 + (1 : Int32))), (0, .ref (k.2.2.2.1 0)), (1, .int x1), (2, .int x2), (3, .int x3), (5, .int x5)] (x4 + (1 : Int32)) dX9_ring_106 rfl (by rfl) (by decide) rfl ?_
    refine g_goto (tgt := 17) E dX9_ring_109 (by decide) ?_
    exact g_sub [1, 2, 3, 4, 0] rfl (hrc17 σ x1 x2 x3 (x4 + (1 : Int32)) r hf)
  · have hf := gn hf c1
    refine g_iload E 4 dX9_ring_40 rfl ?_
    refine g_iload E 5 dX9_ring_42 rfl ?_
    refine g_icmp_eq (tgt := 100) E dX9_ring_44 (by decide) (fun c2 => ?_) (fun c2 => ?_)
    · have hf := gp hf c2
      exact fX9_ring_w100 E rc4 hrc4 rc17 hrc17 rc31 hrc31 σ x1 x2 x3 x4 x5 r hf
    · have hf := gn hf c2
      refine g_aload_n E 0 dX9_ring_47 rfl rfl ?_
      refine g_iload_n E 3 dX9_ring_48 rfl rfl ?_
      refine g_iload E 4 dX9_ring_49 rfl ?_
      obtain ⟨q3, hq4, hf⟩ := gb hf
      refine g_callV (C := RX9) (T := TX9) (N := 20) (ci := 9) (As := [.int x3, .int x4]) (rest := []) (n := 2) E 0 (fX9_gave_c k σ x3 x4 q3 hq4) gX9_ring_X9_gave rfl rfl rfl (by decide +kernel) ⟨Nat.le_of_ble_eq_true rfl, Nat.le_of_ble_eq_true rfl⟩ rfl rfl (Nat.le_of_ble_eq_true rfl) rfl (mwG0 _ _) dX9_ring_51 ?_
      refine g_if_eq (tgt := 100) E dX9_ring_54 (by decide) (fun c5 => ?_) (fun c5 => ?_)
      · have hf := gp hf c5
        exact fX9_ring_w100 E rc4 hrc4 rc17 hrc17 rc31 hrc31 q3.2 x1 x2 x3 x4 x5 r hf
      · have hf := gn hf c5
        refine g_aload_n E 0 dX9_ring_57 rfl rfl ?_
        refine g_iload E 4 dX9_ring_58 rfl ?_
        refine g_iload E 5 dX9_ring_60 rfl ?_
        obtain ⟨q6, hq7, hf⟩ := gb hf
        refine g_callV (C := RX9) (T := TX9) (N := 20) (ci := 9) (As := [.int x4, .int x5]) (rest := []) (n := 2) E 0 (fX9_gave_c k q3.2 x4 x5 q6 hq7) gX9_ring_X9_gave rfl rfl rfl (by decide +kernel) ⟨Nat.le_of_ble_eq_true rfl, Nat.le_of_ble_eq_true rfl⟩ rfl rfl (Nat.le_of_ble_eq_true rfl) rfl (mwG0 _ _) dX9_ring_62 ?_
        refine g_if_eq (tgt := 100) E dX9_ring_65 (by decide) (fun c8 => ?_) (fun c8 => ?_)
        · have hf := gp hf c8
          exact fX9_ring_w100 E rc4 hrc4 rc17 hrc17 rc31 hrc31 q6.2 x1 x2 x3 x4 x5 r hf
        · have hf := gn hf c8
          refine g_aload_n E 0 dX9_ring_68 rfl rfl ?_
          refine g_iload E 5 dX9_ring_69 rfl ?_
          refine g_iload_n E 3 dX9_ring_71 rfl rfl ?_
          obtain ⟨q9, hq10, hf⟩ := gb hf
          refine g_callV (C := RX9) (T := TX9) (N := 20) (ci := 9) (As := [.int x5, .int x3]) (rest := []) (n := 2) E 0 (fX9_gave_c k q6.2 x5 x3 q9 hq10) gX9_ring_X9_gave rfl rfl rfl (by decide +kernel) ⟨Nat.le_of_ble_eq_true rfl, Nat.le_of_ble_eq_true rfl⟩ rfl rfl (Nat.le_of_ble_eq_true rfl) rfl (mwG0 _ _) dX9_ring_72 ?_
          refine g_if_eq (tgt := 100) E dX9_ring_75 (by decide) (fun c11 => ?_) (fun c11 => ?_)
          · have hf := gp hf c11
            exact fX9_ring_w100 E rc4 hrc4 rc17 hrc17 rc31 hrc31 q9.2 x1 x2 x3 x4 x5 r hf
          · have hf := gn hf c11
            refine g_iload_n E 2 dX9_ring_78 rfl rfl ?_
            refine g_iload_n E 1 dX9_ring_79 rfl rfl ?_
            refine g_icmp_ne (tgt := 97) E dX9_ring_80 (by decide) (fun c12 => ?_) (fun c12 => ?_)
            · have hf := gn hf c12
              refine g_iinc E 2 [(2, .int (x2 + (1 : Int32))), (0, .ref (k.2.2.2.1 0)), (1, .int x1), (3, .int x3), (4, .int x4), (5, .int x5)] (x2 + (1 : Int32)) dX9_ring_97 rfl (by rfl) (by decide) rfl ?_
              exact g_sub [1, 2, 0, 3, 4, 5] rfl (fX9_ring_w100 E rc4 hrc4 rc17 hrc17 rc31 hrc31 q9.2 x1 (x2 + (1 : Int32)) x3 x4 x5 r hf)
            · have hf := gp hf c12
              refine g_bipush (v := (100 : Int32)) E dX9_ring_83 (by decide) ?_
              refine g_iload_n E 3 dX9_ring_85 rfl rfl ?_
              refine g_imul E dX9_ring_86 ?_
              refine g_bipush (v := (10 : Int32)) E dX9_ring_87 (by decide) ?_
              refine g_iload E 4 dX9_ring_89 rfl ?_
              refine g_imul E dX9_ring_91 ?_
              refine g_iadd E dX9_ring_92 ?_
              refine g_iload E 5 dX9_ring_93 rfl ?_
              refine g_iadd E dX9_ring_95 ?_
              cases hf
              exact g_iret E dX9_ring_96
theorem fX9_ring_v31 {k : gK} {X : gX} (E : gE k X cX9_ring RX9 wsX9_ring 6 (some .int) rm_fX9_ring) (rc4 : St → Int32 → Int32 → Int32 → Option (Int32 × St)) (hrc4 : ∀ (σ : St) (x1 : Int32) (x2 : Int32) (x3 : Int32) (r : Int32 × St), rc4 σ x1 x2 x3 = some r → G k X 6 (some (.int r.1)) (mw k.2.2.2 r.2) (mw k.2.2.2 σ) [(0, .ref (k.2.2.2.1 0)), (1, .int x1), (2, .int x2), (3, .int x3)] [] 4) (rc17 : St → Int32 → Int32 → Int32 → Int32 → Option (Int32 × St)) (hrc17 : ∀ (σ : St) (x1 : Int32) (x2 : Int32) (x3 : Int32) (x4 : Int32) (r : Int32 × St), rc17 σ x1 x2 x3 x4 = some r → G k X 6 (some (.int r.1)) (mw k.2.2.2 r.2) (mw k.2.2.2 σ) [(0, .ref (k.2.2.2.1 0)), (1, .int x1), (2, .int x2), (3, .int x3), (4, .int x4)] [] 17) : ∀ (n : Nat) (σ : St) (x1 : Int32) (x2 : Int32) (x3 : Int32) (x4 : Int32) (x5 : Int32) (r : Int32 × St), fX9_ring_l31 rc4 rc17 n σ x1 x2 x3 x4 x5 = some r → G k X 6 (some (.int r.1)) (mw k.2.2.2 r.2) (mw k.2.2.2 σ) [(0, .ref (k.2.2.2.1 0)), (1, .int x1), (2, .int x2), (3, .int x3), (4, .int x4), (5, .int x5)] [] 31 := by
  intro n
  induction n with
  | zero => intro σ x1 x2 x3 x4 x5 r hf; cases hf
  | succ n ih => intro σ x1 x2 x3 x4 x5 r hf; exact fX9_ring_w31 E rc4 hrc4 rc17 hrc17 (fX9_ring_l31 rc4 rc17 n) ih σ x1 x2 x3 x4 x5 r hf
set_option maxHeartbeats 4000000 in
set_option maxRecDepth 100000 in
theorem fX9_ring_w17 {k : gK} {X : gX} (E : gE k X cX9_ring RX9 wsX9_ring 6 (some .int) rm_fX9_ring) (rc4 : St → Int32 → Int32 → Int32 → Option (Int32 × St)) (hrc4 : ∀ (σ : St) (x1 : Int32) (x2 : Int32) (x3 : Int32) (r : Int32 × St), rc4 σ x1 x2 x3 = some r → G k X 6 (some (.int r.1)) (mw k.2.2.2 r.2) (mw k.2.2.2 σ) [(0, .ref (k.2.2.2.1 0)), (1, .int x1), (2, .int x2), (3, .int x3)] [] 4) (rc17 : St → Int32 → Int32 → Int32 → Int32 → Option (Int32 × St)) (hrc17 : ∀ (σ : St) (x1 : Int32) (x2 : Int32) (x3 : Int32) (x4 : Int32) (r : Int32 × St), rc17 σ x1 x2 x3 x4 = some r → G k X 6 (some (.int r.1)) (mw k.2.2.2 r.2) (mw k.2.2.2 σ) [(0, .ref (k.2.2.2.1 0)), (1, .int x1), (2, .int x2), (3, .int x3), (4, .int x4)] [] 17) (σ : St) (x1 : Int32) (x2 : Int32) (x3 : Int32) (x4 : Int32) (r : Int32 × St) (hf : fX9_ring_b17 rc4 rc17 σ x1 x2 x3 x4 = some r) : G k X 6 (some (.int r.1)) (mw k.2.2.2 r.2) (mw k.2.2.2 σ) [(0, .ref (k.2.2.2.1 0)), (1, .int x1), (2, .int x2), (3, .int x3), (4, .int x4)] [] 17 := by
  unfold fX9_ring_b17 at hf
  refine g_iload E 4 dX9_ring_17 rfl ?_
  refine g_aload_n E 0 dX9_ring_19 rfl rfl ?_
  refine g_get (C := RX9) (T := TX9) (N := 20) (ci := 9) E 0 3 (.int (σ.2.1 0)) hi_X9_ring_X9 (mwG0 _ _) rfl (by decide) hk_X9_ring_63 rfl dX9_ring_20 ?_
  refine g_icmp_ge (tgt := 112) E dX9_ring_23 (by decide) (fun c1 => ?_) (fun c1 => ?_)
  · have hf := gp hf c1
    refine g_iinc E 3 [(3, .int (x3 + (1 : Int32))), (0, .ref (k.2.2.2.1 0)), (1, .int x1), (2, .int x2), (4, .int x4)] (x3 + (1 : Int32)) dX9_ring_112 rfl (by rfl) (by decide) rfl ?_
    refine g_goto (tgt := 4) E dX9_ring_115 (by decide) ?_
    exact g_sub [1, 2, 3, 0] rfl (hrc4 σ x1 x2 (x3 + (1 : Int32)) r hf)
  · have hf := gn hf c1
    refine g_iload_n E 3 dX9_ring_26 rfl rfl ?_
    refine g_iconst (v := (1 : Int32)) E dX9_ring_27 (by decide) ?_
    refine g_iadd E dX9_ring_28 ?_
    refine g_istore E [(5, .int (x3 + (1 : Int32))), (0, .ref (k.2.2.2.1 0)), (1, .int x1), (2, .int x2), (3, .int x3), (4, .int x4)] dX9_ring_29 (by decide) rfl ?_
    exact g_sub [1, 2, 3, 4, 5, 0] rfl (fX9_ring_v31 E rc4 hrc4 rc17 hrc17 gF σ x1 x2 x3 x4 (x3 + (1 : Int32)) r hf)
theorem fX9_ring_v17 {k : gK} {X : gX} (E : gE k X cX9_ring RX9 wsX9_ring 6 (some .int) rm_fX9_ring) (rc4 : St → Int32 → Int32 → Int32 → Option (Int32 × St)) (hrc4 : ∀ (σ : St) (x1 : Int32) (x2 : Int32) (x3 : Int32) (r : Int32 × St), rc4 σ x1 x2 x3 = some r → G k X 6 (some (.int r.1)) (mw k.2.2.2 r.2) (mw k.2.2.2 σ) [(0, .ref (k.2.2.2.1 0)), (1, .int x1), (2, .int x2), (3, .int x3)] [] 4) : ∀ (n : Nat) (σ : St) (x1 : Int32) (x2 : Int32) (x3 : Int32) (x4 : Int32) (r : Int32 × St), fX9_ring_l17 rc4 n σ x1 x2 x3 x4 = some r → G k X 6 (some (.int r.1)) (mw k.2.2.2 r.2) (mw k.2.2.2 σ) [(0, .ref (k.2.2.2.1 0)), (1, .int x1), (2, .int x2), (3, .int x3), (4, .int x4)] [] 17 := by
  intro n
  induction n with
  | zero => intro σ x1 x2 x3 x4 r hf; cases hf
  | succ n ih => intro σ x1 x2 x3 x4 r hf; exact fX9_ring_w17 E rc4 hrc4 (fX9_ring_l17 rc4 n) ih σ x1 x2 x3 x4 r hf
set_option maxHeartbeats 4000000 in
set_option maxRecDepth 100000 in
theorem fX9_ring_w4 {k : gK} {X : gX} (E : gE k X cX9_ring RX9 wsX9_ring 6 (some .int) rm_fX9_ring) (rc4 : St → Int32 → Int32 → Int32 → Option (Int32 × St)) (hrc4 : ∀ (σ : St) (x1 : Int32) (x2 : Int32) (x3 : Int32) (r : Int32 × St), rc4 σ x1 x2 x3 = some r → G k X 6 (some (.int r.1)) (mw k.2.2.2 r.2) (mw k.2.2.2 σ) [(0, .ref (k.2.2.2.1 0)), (1, .int x1), (2, .int x2), (3, .int x3)] [] 4) (σ : St) (x1 : Int32) (x2 : Int32) (x3 : Int32) (r : Int32 × St) (hf : fX9_ring_b4 rc4 σ x1 x2 x3 = some r) : G k X 6 (some (.int r.1)) (mw k.2.2.2 r.2) (mw k.2.2.2 σ) [(0, .ref (k.2.2.2.1 0)), (1, .int x1), (2, .int x2), (3, .int x3)] [] 4 := by
  unfold fX9_ring_b4 at hf
  refine g_iload_n E 3 dX9_ring_4 rfl rfl ?_
  refine g_aload_n E 0 dX9_ring_5 rfl rfl ?_
  refine g_get (C := RX9) (T := TX9) (N := 20) (ci := 9) E 0 3 (.int (σ.2.1 0)) hi_X9_ring_X9 (mwG0 _ _) rfl (by decide) hk_X9_ring_63 rfl dX9_ring_6 ?_
  refine g_icmp_ge (tgt := 118) E dX9_ring_9 (by decide) (fun c1 => ?_) (fun c1 => ?_)
  · have hf := gp hf c1
    refine g_iload_n E 1 dX9_ring_118 rfl rfl ?_
    refine g_iconst (v := (-1 : Int32)) E dX9_ring_119 (by decide) ?_
    refine g_icmp_ne (tgt := 127) E dX9_ring_120 (by decide) (fun c2 => ?_) (fun c2 => ?_)
    · have hf := gn hf c2
      refine g_bipush (v := (-6 : Int32)) E dX9_ring_127 (by decide) ?_
      cases hf
      exact g_iret E dX9_ring_129
    · have hf := gp hf c2
      refine g_iload_n E 2 dX9_ring_123 rfl rfl ?_
      refine g_goto (tgt := 129) E dX9_ring_124 (by decide) ?_
      cases hf
      exact g_iret E dX9_ring_129
  · have hf := gn hf c1
    refine g_iload_n E 3 dX9_ring_12 rfl rfl ?_
    refine g_iconst (v := (1 : Int32)) E dX9_ring_13 (by decide) ?_
    refine g_iadd E dX9_ring_14 ?_
    refine g_istore E [(4, .int (x3 + (1 : Int32))), (0, .ref (k.2.2.2.1 0)), (1, .int x1), (2, .int x2), (3, .int x3)] dX9_ring_15 (by decide) rfl ?_
    exact g_sub [1, 2, 3, 4, 0] rfl (fX9_ring_v17 E rc4 hrc4 gF σ x1 x2 x3 (x3 + (1 : Int32)) r hf)
theorem fX9_ring_v4 {k : gK} {X : gX} (E : gE k X cX9_ring RX9 wsX9_ring 6 (some .int) rm_fX9_ring) : ∀ (n : Nat) (σ : St) (x1 : Int32) (x2 : Int32) (x3 : Int32) (r : Int32 × St), fX9_ring_l4 n σ x1 x2 x3 = some r → G k X 6 (some (.int r.1)) (mw k.2.2.2 r.2) (mw k.2.2.2 σ) [(0, .ref (k.2.2.2.1 0)), (1, .int x1), (2, .int x2), (3, .int x3)] [] 4 := by
  intro n
  induction n with
  | zero => intro σ x1 x2 x3 r hf; cases hf
  | succ n ih => intro σ x1 x2 x3 r hf; exact fX9_ring_w4 E (fX9_ring_l4 n) ih σ x1 x2 x3 r hf
set_option maxHeartbeats 4000000 in
set_option maxRecDepth 100000 in
theorem fX9_ring_c (k : gK) (σ : St) (x1 : Int32) (r : Int32 × St) (hf : fX9_ring σ x1 = some r) : MC k yX9_ring wsX9_ring rm_fX9_ring [.ref (k.2.2.2.1 0), .int x1] (mw k.2.2.2 σ) (some (.int r.1)) (mw k.2.2.2 r.2) := by
  refine MC_of (cc := cX9_ring) (maxL := 6) (ret := (some .int)) (own := RX9) (lvs := [(0, .ref (k.2.2.2.1 0)), (1, .int x1)]) (by decide) rfl rfl (Nat.le_of_ble_eq_true rfl) rfl (fun X E => ?_)
  unfold fX9_ring at hf
  refine g_iconst (v := (0 : Int32)) E dX9_ring_0 (by decide) ?_
  refine g_istore_n E [(2, .int (0 : Int32)), (0, .ref (k.2.2.2.1 0)), (1, .int x1)] dX9_ring_1 rfl (by decide) rfl ?_
  refine g_iconst (v := (0 : Int32)) E dX9_ring_2 (by decide) ?_
  refine g_istore_n E [(3, .int (0 : Int32)), (2, .int (0 : Int32)), (0, .ref (k.2.2.2.1 0)), (1, .int x1)] dX9_ring_3 rfl (by decide) rfl ?_
  exact g_sub [2, 3, 1, 0] rfl (fX9_ring_v4 E gF σ x1 (0 : Int32) (0 : Int32) r hf)
