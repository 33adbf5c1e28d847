theorem hi_X9_joinedOf_X9 : ∀ w ∈ wsX90, w ∈ wsX9_joinedOf := by decide +kernel
theorem hk_X9_joinedOf_63 : Cond.fieldLink RX9 63 "PaperMarksModel" "judges" "I" ∈ wsX9_joinedOf := by decide +kernel
theorem hk_X9_joinedOf_34 : Cond.fieldLink RX9 34 "PaperMarksModel" "marks" "[I" ∈ wsX9_joinedOf := by decide +kernel
theorem hk_X9_joinedOf_67 : Cond.fieldLink RX9 67 "PaperMarksModel" "papers" "I" ∈ wsX9_joinedOf := by decide +kernel
def rm_fX9_joinedOf : Room := { frames := 1, cells := 0, slots := 0, locals := 21 }
set_option maxHeartbeats 4000000 in
set_option maxRecDepth 100000 in
theorem fX9_joinedOf_w125 {k : gK} {X : gX} (E : gE k X cX9_joinedOf RX9 wsX9_joinedOf 7 (some .int) rm_fX9_joinedOf) (rc43 : St → Int32 → Int32 → Option (Int32 × St)) (hrc43 : ∀ (σ : St) (x2 : Int32) (x3 : Int32) (r : Int32 × St), rc43 σ x2 x3 = some r → G k X 7 (some (.int r.1)) (mw k.2.2.2 r.2) (mw k.2.2.2 σ) [(0, .ref (k.2.2.2.1 0)), (2, .int x2), (3, .int x3)] [] 43) (rc53 : St → Int32 → Int32 → Int32 → Option (Int32 × St)) (hrc53 : ∀ (σ : St) (x2 : Int32) (x3 : Int32) (x4 : Int32) (r : Int32 × St), rc53 σ x2 x3 x4 = some r → G k X 7 (some (.int r.1)) (mw k.2.2.2 r.2) (mw k.2.2.2 σ) [(0, .ref (k.2.2.2.1 0)), (2, .int x2), (3, .int x3), (4, .int x4)] [] 53) (σ : St) (x3 : Int32) (x4 : Int32) (t0 : Int32) (t1 : Int32) (r : Int32 × St) (hf : fX9_joinedOf_b125 rc43 rc53 σ x3 x4 t0 t1 = some r) : G k X 7 (some (.int r.1)) (mw k.2.2.2 r.2) (mw k.2.2.2 σ) [(0, .ref (k.2.2.2.1 0)), (3, .int x3), (4, .int x4)] [.int t1, .int t0] 125 := by
  unfold fX9_joinedOf_b125 at hf
  refine g_ior E dX9_joinedOf_125 ?_
  refine g_istore_n E [(2, .int (t0 ||| t1)), (0, .ref (k.2.2.2.1 0)), (3, .int x3), (4, .int x4)] dX9_joinedOf_126 rfl (by decide) rfl ?_
  refine g_iinc E 3 [(4, .int (x4 + (1 : Int32))), (2, .int (t0 ||| t1)), (0, .ref (k.2.2.2.1 0)), (3, .int x3)] (x4 + (1 : Int32)) dX9_joinedOf_127 rfl (by rfl) (by decide) rfl ?_
  refine g_goto (tgt := 53) E dX9_joinedOf_130 (by decide) ?_
  exact g_sub [2, 1, 3, 0] rfl (hrc53 σ (t0 ||| t1) x3 (x4 + (1 : Int32)) r hf)
set_option maxHeartbeats 4000000 in
set_option maxRecDepth 100000 in
theorem fX9_joinedOf_w102 {k : gK} {X : gX} (E : gE k X cX9_joinedOf RX9 wsX9_joinedOf 7 (some .int) rm_fX9_joinedOf) (rc43 : St → Int32 → Int32 → Option (Int32 × St)) (hrc43 : ∀ (σ : St) (x2 : Int32) (x3 : Int32) (r : Int32 × St), rc43 σ x2 x3 = some r → G k X 7 (some (.int r.1)) (mw k.2.2.2 r.2) (mw k.2.2.2 σ) [(0, .ref (k.2.2.2.1 0)), (2, .int x2), (3, .int x3)] [] 43) (rc53 : St → Int32 → Int32 → Int32 → Option (Int32 × St)) (hrc53 : ∀ (σ : St) (x2 : Int32) (x3 : Int32) (x4 : Int32) (r : Int32 × St), rc53 σ x2 x3 x4 = some r → G k X 7 (some (.int r.1)) (mw k.2.2.2 r.2) (mw k.2.2.2 σ) [(0, .ref (k.2.2.2.1 0)), (2, .int x2), (3, .int x3), (4, .int x4)] [] 53) (rc68 : St → Int32 → Int32 → Int32 → Int32 → Int32 → Option (Int32 × St)) (hrc68 : ∀ (σ : St) (x2 : Int32) (x3 : Int32) (x4 : Int32) (x5 : Int32) (x6 : Int32) (r : Int32 × St), rc68 σ x2 x3 x4 x5 x6 = some r → G k X 7 (some (.int r.1)) (mw k.2.2.2 r.2) (mw k.2.2.2 σ) [(0, .ref (k.2.2.2.1 0)), (2, .int x2), (3, .int x3), (4, .int x4), (5, .int x5), (6, .int x6)] [] 68) (σ : St) (x2 : Int32) (x3 : Int32) (x4 : Int32) (x6 : Int32) (t0 : Int32) (t1 : Int32) (r : Int32 × St) (hf : fX9_joinedOf_b102 rc43 rc53 rc68 σ x2 x3 x4 x6 t0 t1 = some r) : G k X 7 (some (.int r.1)) (mw k.2.2.2 r.2) (mw k.2.2.2 σ) [(0, .ref (k.2.2.2.1 0)), (2, .int x2), (3, .int x3), (4, .int x4), (6, .int x6)] [.int t1, .int t0] 102 := by
  unfold fX9_joinedOf_b102 at hf
  refine g_ior E dX9_joinedOf_102 ?_
  refine g_istore E [(5, .int (t0 ||| t1)), (0, .ref (k.2.2.2.1 0)), (2, .int x2), (3, .int x3), (4, .int x4), (6, .int x6)] dX9_joinedOf_103 (by decide) rfl ?_
  refine g_iinc E 5 [(6, .int (x6 + (1 : Int32))), (5, .int (t0 ||| t1)), (0, .ref (k.2.2.2.1 0)), (2, .int x2), (3, .int x3), (4, .int x4)] (x6 + (1 : Int32)) dX9_joinedOf_105 rfl (by rfl) (by decide) rfl ?_
  refine g_goto (tgt := 68) E dX9_joinedOf_108 (by decide) ?_
  exact g_sub [2, 3, 4, 5, 1, 0] rfl (hrc68 σ x2 x3 x4 (t0 ||| t1) (x6 + (1 : Int32)) r hf)
set_option maxHeartbeats 4000000 in
set_option maxRecDepth 100000 in
theorem fX9_joinedOf_w68 {k : gK} {X : gX} (E : gE k X cX9_joinedOf RX9 wsX9_joinedOf 7 (some .int) rm_fX9_joinedOf) (rc43 : St → Int32 → Int32 → Option (Int32 × St)) (hrc43 : ∀ (σ : St) (x2 : Int32) (x3 : Int32) (r : Int32 × St), rc43 σ x2 x3 = some r → G k X 7 (some (.int r.1)) (mw k.2.2.2 r.2) (mw k.2.2.2 σ) [(0, .ref (k.2.2.2.1 0)), (2, .int x2), (3, .int x3)] [] 43) (rc53 : St → Int32 → Int32 → Int32 → Option (Int32 × St)) (hrc53 : ∀ (σ : St) (x2 : Int32) (x3 : Int32) (x4 : Int32) (r : Int32 × St), rc53 σ x2 x3 x4 = some r → G k X 7 (some (.int r.1)) (mw k.2.2.2 r.2) (mw k.2.2.2 σ) [(0, .ref (k.2.2.2.1 0)), (2, .int x2), (3, .int x3), (4, .int x4)] [] 53) (rc68 : St → Int32 → Int32 → Int32 → Int32 → Int32 → Option (Int32 × St)) (hrc68 : ∀ (σ : St) (x2 : Int32) (x3 : Int32) (x4 : Int32) (x5 : Int32) (x6 : Int32) (r : Int32 × St), rc68 σ x2 x3 x4 x5 x6 = some r → G k X 7 (some (.int r.1)) (mw k.2.2.2 r.2) (mw k.2.2.2 σ) [(0, .ref (k.2.2.2.1 0)), (2, .int x2), (3, .int x3), (4, .int x4), (5, .int x5), (6, .int x6)] [] 68) (σ : St) (x2 : Int32) (x3 : Int32) (x4 : Int32) (x5 : Int32) (x6 : Int32) (r : Int32 × St) (hf : fX9_joinedOf_b68 rc43 rc53 rc68 σ x2 x3 x4 x5 x6 = some r) : G k X 7 (some (.int r.1)) (mw k.2.2.2 r.2) (mw k.2.2.2 σ) [(0, .ref (k.2.2.2.1 0)), (2, .int x2), (3, .int x3), (4, .int x4), (5, .int x5), (6, .int x6)] [] 68 := by
  unfold fX9_joinedOf_b68 at hf
  refine g_iload E 5 dX9_joinedOf_68 rfl ?_
  refine g_aload_n E 0 dX9_joinedOf_70 rfl rfl ?_
  refine g_get (C := RX9) (T := TX9) (N := 20) (ci := 9) E 0 3 (.int (σ.2.1 0)) hi_X9_joinedOf_X9 (mwG0 _ _) rfl (by decide) hk_X9_joinedOf_63 rfl dX9_joinedOf_71 ?_
  refine g_icmp_ge (tgt := 111) E dX9_joinedOf_74 (by decide) (fun c1 => ?_) (fun c1 => ?_)
  · have hf := gp hf c1
    refine g_iload_n E 1 dX9_joinedOf_111 rfl rfl ?_
    refine g_iload E 4 dX9_joinedOf_112 rfl ?_
    refine g_iload_n E 1 dX9_joinedOf_114 rfl rfl ?_
    refine g_iand E dX9_joinedOf_115 ?_
    refine g_if_eq (tgt := 124) E dX9_joinedOf_116 (by decide) (fun c2 => ?_) (fun c2 => ?_)
    · have hf := gp hf c2
      refine g_iconst (v := (0 : Int32)) E dX9_joinedOf_124 (by decide) ?_
      exact g_sub [0, 2, 3] rfl (fX9_joinedOf_w125 E rc43 hrc43 rc53 hrc53 σ x3 x4 x2 (0 : Int32) r hf)
    · have hf := gn hf c2
      refine g_iload E 4 dX9_joinedOf_119 rfl ?_
      refine g_goto (tgt := 125) E dX9_joinedOf_121 (by decide) ?_
      exact g_sub [0, 2, 3] rfl (fX9_joinedOf_w125 E rc43 hrc43 rc53 hrc53 σ x3 x4 x2 x5 r hf)
  · have hf := gn hf c1
    refine g_iload E 4 dX9_joinedOf_77 rfl ?_
    refine g_aload_n E 0 dX9_joinedOf_79 rfl rfl ?_
    refine g_get (C := RX9) (T := TX9) (N := 20) (ci := 9) E 0 10 (.ref (k.2.2.2.1 9)) hi_X9_joinedOf_X9 (mwG0 _ _) rfl (by decide) hk_X9_joinedOf_34 rfl dX9_joinedOf_80 ?_
    refine g_iload E 5 dX9_joinedOf_83 rfl ?_
    refine g_iload E 3 dX9_joinedOf_85 rfl ?_
    obtain ⟨q3, hq4, hf⟩ := gb hf
    refine g_callS (As := [.int x6, .int x4]) (rest := [.ref (k.2.2.2.1 9), .int x5]) (n := 2) E (fX9_at_c k σ x6 x4 q3 hq4) gX9_joinedOf_X9_at rfl rfl rfl (by decide +kernel) ⟨Nat.le_of_ble_eq_true rfl, Nat.le_of_ble_eq_true rfl⟩ rfl rfl (Nat.le_of_ble_eq_true rfl) dX9_joinedOf_87 ?_
    obtain ⟨hi5, hf⟩ := gd hf
    refine g_iald E 9 (q3.2.1 9) (mwG9 _ _) hi5 dX9_joinedOf_90 ?_
    refine g_if_lt (tgt := 101) E dX9_joinedOf_91 (by decide) (fun c6 => ?_) (fun c6 => ?_)
    · have hf := gp hf c6
      refine g_iconst (v := (0 : Int32)) E dX9_joinedOf_101 (by decide) ?_
      exact g_sub [0, 1, 2, 3, 5] rfl (fX9_joinedOf_w102 E rc43 hrc43 rc53 hrc53 rc68 hrc68 q3.2 x2 x3 x4 x6 x5 (0 : Int32) r hf)
    · have hf := gn hf c6
      refine g_iconst (v := (1 : Int32)) E dX9_joinedOf_94 (by decide) ?_
      refine g_iload E 5 dX9_joinedOf_95 rfl ?_
      refine g_ishl E dX9_joinedOf_97 ?_
      refine g_goto (tgt := 102) E dX9_joinedOf_98 (by decide) ?_
      exact g_sub [0, 1, 2, 3, 5] rfl (fX9_joinedOf_w102 E rc43 hrc43 rc53 hrc53 rc68 hrc68 q3.2 x2 x3 x4 x6 x5 ((1 : Int32) <<< (x6 &&& 31)) r hf)
theorem fX9_joinedOf_v68 {k : gK} {X : gX} (E : gE k X cX9_joinedOf RX9 wsX9_joinedOf 7 (some .int) rm_fX9_joinedOf) (rc43 : St → Int32 → Int32 → Option (Int32 × St)) (hrc43 : ∀ (σ : St) (x2 : Int32) (x3 : Int32) (r : Int32 × St), rc43 σ x2 x3 = some r → G k X 7 (some (.int r.1)) (mw k.2.2.2 r.2) (mw k.2.2.2 σ) [(0, .ref (k.2.2.2.1 0)), (2, .int x2), (3, .int x3)] [] 43) (rc53 : St → Int32 → Int32 → Int32 → Option (Int32 × St)) (hrc53 : ∀ (σ : St) (x2 : Int32) (x3 : Int32) (x4 : Int32) (r : Int32 × St), rc53 σ x2 x3 x4 = some r → G k X 7 (some (.int r.1)) (mw k.2.2.2 r.2) (mw k.2.2.2 σ) [(0, .ref (k.2.2.2.1 0)), (2, .int x2), (3, .int x3), (4, .int x4)] [] 53) : ∀ (n : Nat) (σ : St) (x2 : Int32) (x3 : Int32) (x4 : Int32) (x5 : Int32) (x6 : Int32) (r : Int32 × St), fX9_joinedOf_l68 rc43 rc53 n σ x2 x3 x4 x5 x6 = some r → G k X 7 (some (.int r.1)) (mw k.2.2.2 r.2) (mw k.2.2.2 σ) [(0, .ref (k.2.2.2.1 0)), (2, .int x2), (3, .int x3), (4, .int x4), (5, .int x5), (6, .int x6)] [] 68 := by
  intro n
  induction n with
  | zero => intro σ x2 x3 x4 x5 x6 r hf; cases hf
  | succ n ih => intro σ x2 x3 x4 x5 x6 r hf; exact fX9_joinedOf_w68 E rc43 hrc43 rc53 hrc53 (fX9_joinedOf_l68 rc43 rc53 n) ih σ x2 x3 x4 x5 x6 r hf
set_option maxHeartbeats 4000000 in
set_option maxRecDepth 100000 in
theorem fX9_joinedOf_w53 {k : gK} {X : gX} (E : gE k X cX9_joinedOf RX9 wsX9_joinedOf 7 (some .int) rm_fX9_joinedOf) (rc43 : St → Int32 → Int32 → Option (Int32 × St)) (hrc43 : ∀ (σ : St) (x2 : Int32) (x3 : Int32) (r : Int32 × St), rc43 σ x2 x3 = some r → G k X 7 (some (.int r.1)) (mw k.2.2.2 r.2) (mw k.2.2.2 σ) [(0, .ref (k.2.2.2.1 0)), (2, .int x2), (3, .int x3)] [] 43) (rc53 : St → Int32 → Int32 → Int32 → Option (Int32 × St)) (hrc53 : ∀ (σ : St) (x2 : Int32) (x3 : Int32) (x4 : Int32) (r : Int32 × St), rc53 σ x2 x3 x4 = some r → G k X 7 (some (.int r.1)) (mw k.2.2.2 r.2) (mw k.2.2.2 σ) [(0, .ref (k.2.2.2.1 0)), (2, .int x2), (3, .int x3), (4, .int x4)] [] 53) (σ : St) (x2 : Int32) (x3 : Int32) (x4 : Int32) (r : Int32 × St) (hf : fX9_joinedOf_b53 rc43 rc53 σ x2 x3 x4 = some r) : G k X 7 (some (.int r.1)) (mw k.2.2.2 r.2) (mw k.2.2.2 σ) [(0, .ref (k.2.2.2.1 0)), (2, .int x2), (3, .int x3), (4, .int x4)] [] 53 := by
  unfold fX9_joinedOf_b53 at hf
  refine g_iload E 3 dX9_joinedOf_53 rfl ?_
  refine g_aload_n E 0 dX9_joinedOf_55 rfl rfl ?_
  refine g_get (C := RX9) (T := TX9) (N := 20) (ci := 9) E 0 9 (.int (σ.2.1 1)) hi_X9_joinedOf_X9 (mwG0 _ _) rfl (by decide) hk_X9_joinedOf_67 rfl dX9_joinedOf_56 ?_
  refine g_icmp_ge (tgt := 133) E dX9_joinedOf_59 (by decide) (fun c1 => ?_) (fun c1 => ?_)
  · have hf := gp hf c1
    refine g_goto (tgt := 43) E dX9_joinedOf_133 (by decide) ?_
    exact g_sub [0, 1, 2] rfl (hrc43 σ x2 x3 r hf)
  · have hf := gn hf c1
    refine g_iconst (v := (0 : Int32)) E dX9_joinedOf_62 (by decide) ?_
    refine g_istore E [(5, .int (0 : Int32)), (0, .ref (k.2.2.2.1 0)), (2, .int x2), (3, .int x3), (4, .int x4)] dX9_joinedOf_63 (by decide) rfl ?_
    refine g_iconst (v := (0 : Int32)) E dX9_joinedOf_65 (by decide) ?_
    refine g_istore E [(6, .int (0 : Int32)), (5, .int (0 : Int32)), (0, .ref (k.2.2.2.1 0)), (2, .int x2), (3, .int x3), (4, .int x4)] dX9_joinedOf_66 (by decide) rfl ?_
    exact g_sub [2, 3, 4, 5, 1, 0] rfl (fX9_joinedOf_v68 E rc43 hrc43 rc53 hrc53 gF σ x2 x3 x4 (0 : Int32) (0 : Int32) r hf)
theorem fX9_joinedOf_v53 {k : gK} {X : gX} (E : gE k X cX9_joinedOf RX9 wsX9_joinedOf 7 (some .int) rm_fX9_joinedOf) (rc43 : St → Int32 → Int32 → Option (Int32 × St)) (hrc43 : ∀ (σ : St) (x2 : Int32) (x3 : Int32) (r : Int32 × St), rc43 σ x2 x3 = some r → G k X 7 (some (.int r.1)) (mw k.2.2.2 r.2) (mw k.2.2.2 σ) [(0, .ref (k.2.2.2.1 0)), (2, .int x2), (3, .int x3)] [] 43) : ∀ (n : Nat) (σ : St) (x2 : Int32) (x3 : Int32) (x4 : Int32) (r : Int32 × St), fX9_joinedOf_l53 rc43 n σ x2 x3 x4 = some r → G k X 7 (some (.int r.1)) (mw k.2.2.2 r.2) (mw k.2.2.2 σ) [(0, .ref (k.2.2.2.1 0)), (2, .int x2), (3, .int x3), (4, .int x4)] [] 53 := by
  intro n
  induction n with
  | zero => intro σ x2 x3 x4 r hf; cases hf
  | succ n ih => intro σ x2 x3 x4 r hf; exact fX9_joinedOf_w53 E rc43 hrc43 (fX9_joinedOf_l53 rc43 n) ih σ x2 x3 x4 r hf
set_option maxHeartbeats 4000000 in
set_option maxRecDepth 100000 in
theorem fX9_joinedOf_w43 {k : gK} {X : gX} (E : gE k X cX9_joinedOf RX9 wsX9_joinedOf 7 (some .int) rm_fX9_joinedOf) (rc43 : St → Int32 → Int32 → Option (Int32 × St)) (hrc43 : ∀ (σ : St) (x2 : Int32) (x3 : Int32) (r : Int32 × St), rc43 σ x2 x3 = some r → G k X 7 (some (.int r.1)) (mw k.2.2.2 r.2) (mw k.2.2.2 σ) [(0, .ref (k.2.2.2.1 0)), (2, .int x2), (3, .int x3)] [] 43) (σ : St) (x2 : Int32) (x3 : Int32) (r : Int32 × St) (hf : fX9_joinedOf_b43 rc43 σ x2 x3 = some r) : G k X 7 (some (.int r.1)) (mw k.2.2.2 r.2) (mw k.2.2.2 σ) [(0, .ref (k.2.2.2.1 0)), (2, .int x2), (3, .int x3)] [] 43 := by
  unfold fX9_joinedOf_b43 at hf
  refine g_iload_n E 2 dX9_joinedOf_43 rfl rfl ?_
  refine g_iload_n E 1 dX9_joinedOf_44 rfl rfl ?_
  refine g_icmp_eq (tgt := 136) E dX9_joinedOf_45 (by decide) (fun c1 => ?_) (fun c1 => ?_)
  · have hf := gp hf c1
    refine g_iload_n E 1 dX9_joinedOf_136 rfl rfl ?_
    have hf := Option.some.inj hf
    subst hf
    exact g_iret E dX9_joinedOf_137
  · have hf := gn hf c1
    refine g_iload_n E 1 dX9_joinedOf_48 rfl rfl ?_
    refine g_istore_n E [(3, .int x2), (0, .ref (k.2.2.2.1 0)), (2, .int x2)] dX9_joinedOf_49 rfl (by decide) rfl ?_
    refine g_iconst (v := (0 : Int32)) E dX9_joinedOf_50 (by decide) ?_
    refine g_istore E [(4, .int (0 : Int32)), (3, .int x2), (0, .ref (k.2.2.2.1 0)), (2, .int x2)] dX9_joinedOf_51 (by decide) rfl ?_
    exact g_sub [2, 3, 1, 0] rfl (fX9_joinedOf_v53 E rc43 hrc43 gF σ x2 x2 (0 : Int32) r hf)
theorem fX9_joinedOf_v43 {k : gK} {X : gX} (E : gE k X cX9_joinedOf RX9 wsX9_joinedOf 7 (some .int) rm_fX9_joinedOf) : ∀ (n : Nat) (σ : St) (x2 : Int32) (x3 : Int32) (r : Int32 × St), fX9_joinedOf_l43 n σ x2 x3 = some r → G k X 7 (some (.int r.1)) (mw k.2.2.2 r.2) (mw k.2.2.2 σ) [(0, .ref (k.2.2.2.1 0)), (2, .int x2), (3, .int x3)] [] 43 := by
  intro n
  induction n with
  | zero => intro σ x2 x3 r hf; cases hf
  | succ n ih => intro σ x2 x3 r hf; exact fX9_joinedOf_w43 E (fX9_joinedOf_l43 n) ih σ x2 x3 r hf
set_option maxHeartbeats 4000000 in
set_option maxRecDepth 100000 in
theorem fX9_joinedOf_w33 {k : gK} {X : gX} (E : gE k X cX9_joinedOf RX9 wsX9_joinedOf 7 (some .int) rm_fX9_joinedOf) (rc4 : St → Int32 → Int32 → Int32 → Option (Int32 × St)) (hrc4 : ∀ (σ : St) (x1 : Int32) (x2 : Int32) (x3 : Int32) (r : Int32 × St), rc4 σ x1 x2 x3 = some r → G k X 7 (some (.int r.1)) (mw k.2.2.2 r.2) (mw k.2.2.2 σ) [(0, .ref (k.2.2.2.1 0)), (1, .int x1), (2, .int x2), (3, .int x3)] [] 4) (σ : St) (x1 : Int32) (x3 : Int32) (t0 : Int32) (t1 : Int32) (r : Int32 × St) (hf : fX9_joinedOf_b33 rc4 σ x1 x3 t0 t1 = some r) : G k X 7 (some (.int r.1)) (mw k.2.2.2 r.2) (mw k.2.2.2 σ) [(0, .ref (k.2.2.2.1 0)), (1, .int x1), (3, .int x3)] [.int t1, .int t0] 33 := by
  unfold fX9_joinedOf_b33 at hf
  refine g_ior E dX9_joinedOf_33 ?_
  refine g_istore_n E [(2, .int (t0 ||| t1)), (0, .ref (k.2.2.2.1 0)), (1, .int x1), (3, .int x3)] dX9_joinedOf_34 rfl (by decide) rfl ?_
  refine g_iinc E 3 [(3, .int (x3 + (1 : Int32))), (2, .int (t0 ||| t1)), (0, .ref (k.2.2.2.1 0)), (1, .int x1)] (x3 + (1 : Int32)) dX9_joinedOf_35 rfl (by rfl) (by decide) rfl ?_
  refine g_goto (tgt := 4) E dX9_joinedOf_38 (by decide) ?_
  exact g_sub [2, 3, 1, 0] rfl (hrc4 σ x1 (t0 ||| t1) (x3 + (1 : Int32)) r hf)
set_option maxHeartbeats 4000000 in
set_option maxRecDepth 100000 in
theorem fX9_joinedOf_w4 {k : gK} {X : gX} (E : gE k X cX9_joinedOf RX9 wsX9_joinedOf 7 (some .int) rm_fX9_joinedOf) (rc4 : St → Int32 → Int32 → Int32 → Option (Int32 × St)) (hrc4 : ∀ (σ : St) (x1 : Int32) (x2 : Int32) (x3 : Int32) (r : Int32 × St), rc4 σ x1 x2 x3 = some r → G k X 7 (some (.int r.1)) (mw k.2.2.2 r.2) (mw k.2.2.2 σ) [(0, .ref (k.2.2.2.1 0)), (1, .int x1), (2, .int x2), (3, .int x3)] [] 4) (σ : St) (x1 : Int32) (x2 : Int32) (x3 : Int32) (r : Int32 × St) (hf : fX9_joinedOf_b4 rc4 σ x1 x2 x3 = some r) : G k X 7 (some (.int r.1)) (mw k.2.2.2 r.2) (mw k.2.2.2 σ) [(0, .ref (k.2.2.2.1 0)), (1, .int x1), (2, .int x2), (3, .int x3)] [] 4 := by
  unfold fX9_joinedOf_b4 at hf
  refine g_iload_n E 3 dX9_joinedOf_4 rfl rfl ?_
  refine g_aload_n E 0 dX9_joinedOf_5 rfl rfl ?_
  refine g_get (C := RX9) (T := TX9) (N := 20) (ci := 9) E 0 9 (.int (σ.2.1 1)) hi_X9_joinedOf_X9 (mwG0 _ _) rfl (by decide) hk_X9_joinedOf_67 rfl dX9_joinedOf_6 ?_
  refine g_icmp_ge (tgt := 41) E dX9_joinedOf_9 (by decide) (fun c1 => ?_) (fun c1 => ?_)
  · have hf := gp hf c1
    refine g_iconst (v := (0 : Int32)) E dX9_joinedOf_41 (by decide) ?_
    refine g_istore_n E [(3, .int (0 : Int32)), (0, .ref (k.2.2.2.1 0)), (1, .int x1), (2, .int x2)] dX9_joinedOf_42 rfl (by decide) rfl ?_
    exact g_sub [1, 3, 0] rfl (fX9_joinedOf_v43 E gF σ x2 (0 : Int32) r hf)
  · have hf := gn hf c1
    refine g_iload_n E 2 dX9_joinedOf_12 rfl rfl ?_
    refine g_aload_n E 0 dX9_joinedOf_13 rfl rfl ?_
    refine g_get (C := RX9) (T := TX9) (N := 20) (ci := 9) E 0 10 (.ref (k.2.2.2.1 9)) hi_X9_joinedOf_X9 (mwG0 _ _) rfl (by decide) hk_X9_joinedOf_34 rfl dX9_joinedOf_14 ?_
    refine g_iload_n E 1 dX9_joinedOf_17 rfl rfl ?_
    refine g_iload_n E 3 dX9_joinedOf_18 rfl rfl ?_
    obtain ⟨q2, hq3, hf⟩ := gb hf
    refine g_callS (As := [.int x1, .int x3]) (rest := [.ref (k.2.2.2.1 9), .int x2]) (n := 2) E (fX9_at_c k σ x1 x3 q2 hq3) gX9_joinedOf_X9_at rfl rfl rfl (by decide +kernel) ⟨Nat.le_of_ble_eq_true rfl, Nat.le_of_ble_eq_true rfl⟩ rfl rfl (Nat.le_of_ble_eq_true rfl) dX9_joinedOf_19 ?_
    obtain ⟨hi4, hf⟩ := gd hf
    refine g_iald E 9 (q2.2.1 9) (mwG9 _ _) hi4 dX9_joinedOf_22 ?_
    refine g_if_lt (tgt := 32) E dX9_joinedOf_23 (by decide) (fun c5 => ?_) (fun c5 => ?_)
    · have hf := gp hf c5
      refine g_iconst (v := (0 : Int32)) E dX9_joinedOf_32 (by decide) ?_
      exact g_sub [0, 1, 3] rfl (fX9_joinedOf_w33 E rc4 hrc4 q2.2 x1 x3 x2 (0 : Int32) r hf)
    · have hf := gn hf c5
      refine g_iconst (v := (1 : Int32)) E dX9_joinedOf_26 (by decide) ?_
      refine g_iload_n E 1 dX9_joinedOf_27 rfl rfl ?_
      refine g_ishl E dX9_joinedOf_28 ?_
      refine g_goto (tgt := 33) E dX9_joinedOf_29 (by decide) ?_
      exact g_sub [0, 1, 3] rfl (fX9_joinedOf_w33 E rc4 hrc4 q2.2 x1 x3 x2 ((1 : Int32) <<< (x1 &&& 31)) r hf)
theorem fX9_joinedOf_v4 {k : gK} {X : gX} (E : gE k X cX9_joinedOf RX9 wsX9_joinedOf 7 (some .int) rm_fX9_joinedOf) : ∀ (n : Nat) (σ : St) (x1 : Int32) (x2 : Int32) (x3 : Int32) (r : Int32 × St), fX9_joinedOf_l4 n σ x1 x2 x3 = some r → G k X 7 (some (.int r.1)) (mw k.2.2.2 r.2) (mw k.2.2.2 σ) [(0, .ref (k.2.2.2.1 0)), (1, .int x1), (2, .int x2), (3, .int x3)] [] 4 := by
  intro n
  induction n with
  | zero => intro σ x1 x2 x3 r hf; cases hf
  | succ n ih => intro σ x1 x2 x3 r hf; exact fX9_joinedOf_w4 E (fX9_joinedOf_l4 n) ih σ x1 x2 x3 r hf
set_option maxHeartbeats 4000000 in
set_option maxRecDepth 100000 in
theorem fX9_joinedOf_c (k : gK) (σ : St) (x1 : Int32) (r : Int32 × St) (hf : fX9_joinedOf σ x1 = some r) : MC k yX9_joinedOf wsX9_joinedOf rm_fX9_joinedOf [.ref (k.2.2.2.1 0), .int x1] (mw k.2.2.2 σ) (some (.int r.1)) (mw k.2.2.2 r.2) := by
  refine MC_of (cc := cX9_joinedOf) (maxL := 7) (ret := (some .int)) (own := RX9) (lvs := [(0, .ref (k.2.2.2.1 0)), (1, .int x1)]) (by decide) rfl rfl (Nat.le_of_ble_eq_true rfl) rfl (fun X E => ?_)
  unfold fX9_joinedOf at hf
  refine g_iconst (v := (0 : Int32)) E dX9_joinedOf_0 (by decide) ?_
  refine g_istore_n E [(2, .int (0 : Int32)), (0, .ref (k.2.2.2.1 0)), (1, .int x1)] dX9_joinedOf_1 rfl (by decide) rfl ?_
  refine g_iconst (v := (0 : Int32)) E dX9_joinedOf_2 (by decide) ?_
  refine g_istore_n E [(3, .int (0 : Int32)), (2, .int (0 : Int32)), (0, .ref (k.2.2.2.1 0)), (1, .int x1)] dX9_joinedOf_3 rfl (by decide) rfl ?_
  exact g_sub [2, 3, 1, 0] rfl (fX9_joinedOf_v4 E gF σ x1 (0 : Int32) (0 : Int32) r hf)
def rm_fX9_joined : Room := { frames := 2, cells := 0, slots := 0, locals := 47 }
set_option maxHeartbeats 4000000 in
set_option maxRecDepth 100000 in
theorem fX9_joined_c (k : gK) (σ : St) (x1 : Int32) (r : Int32 × St) (hf : fX9_joined σ x1 = some r) : MC k yX9_joined wsX9_joined rm_fX9_joined [.ref (k.2.2.2.1 0), .int x1] (mw k.2.2.2 σ) (some (.int r.1)) (mw k.2.2.2 r.2) := by
  refine MC_of (cc := cX9_joined) (maxL := 2) (ret := (some .int)) (own := RX9) (lvs := [(0, .ref (k.2.2.2.1 0)), (1, .int x1)]) (by decide) rfl rfl (Nat.le_of_ble_eq_true rfl) rfl (fun X E => ?_)
  unfold fX9_joined at hf
  refine g_aload_n E 0 dX9_joined_0 rfl rfl ?_
  refine g_iload_n E 1 dX9_joined_1 rfl rfl ?_
  obtain ⟨q1, hq2, hf⟩ := gb hf
  refine g_callV (C := RX9) (T := TX9) (N := 20) (ci := 9) (As := [.int x1]) (rest := []) (n := 1) E 0 (fX9_isJudge_c k σ x1 q1 hq2) gX9_joined_X9_isJudge rfl rfl rfl (by decide +kernel) ⟨Nat.le_of_ble_eq_true rfl, Nat.le_of_ble_eq_true rfl⟩ rfl rfl (Nat.le_of_ble_eq_true rfl) rfl (mwG0 _ _) dX9_joined_2 ?_
  refine g_if_eq (tgt := 16) E dX9_joined_5 (by decide) (fun c3 => ?_) (fun c3 => ?_)
  · have hf := gp hf c3
    refine g_iconst (v := (-1 : Int32)) E dX9_joined_16 (by decide) ?_
    have hf := Option.some.inj hf
    subst hf
    exact g_iret E dX9_joined_17
  · have hf := gn hf c3
    refine g_aload_n E 0 dX9_joined_8 rfl rfl ?_
    refine g_iload_n E 1 dX9_joined_9 rfl rfl ?_
    obtain ⟨q4, hq5, hf⟩ := gb hf
    refine g_callV (C := RX9) (T := TX9) (N := 20) (ci := 9) (As := [.int x1]) (rest := []) (n := 1) E 0 (fX9_joinedOf_c k q1.2 x1 q4 hq5) gX9_joined_X9_joinedOf rfl rfl rfl (by decide +kernel) ⟨Nat.le_of_ble_eq_true rfl, Nat.le_of_ble_eq_true rfl⟩ rfl rfl (Nat.le_of_ble_eq_true rfl) rfl (mwG0 _ _) dX9_joined_10 ?_
    refine g_goto (tgt := 17) E dX9_joined_13 (by decide) ?_
    have hf := Option.some.inj hf
    subst hf
    exact g_iret E dX9_joined_17
