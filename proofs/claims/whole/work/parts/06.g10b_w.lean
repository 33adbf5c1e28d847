theorem hi_X9_ring_X9 : ∀ w ∈ wsX90, w ∈ wsX9_ring := by decide +kernel
theorem hk_X9_ring_63 : Cond.fieldLink RX9 63 "PaperMarksModel" "judges" "I" ∈ wsX9_ring := by decide +kernel
def rm_fX9_ring : Room := { frames := 2, cells := 0, slots := 0, locals := 45 }
set_option maxHeartbeats 4000000 in
set_option maxRecDepth 100000 in
theorem fX9_ring_w100 {k : gK} {X : gX} (E : gE k X cX9_ring RX9 wsX9_ring 6 (some .int) rm_fX9_ring) (rc4 : St → Int32 → Int32 → Int32 → Option (Int32 × St)) (hrc4 : ∀ (σ : St) (x1 : Int32) (x2 : Int32) (x3 : Int32) (r : Int32 × St), rc4 σ x1 x2 x3 = some r → G k X 6 (some (.int r.1)) (mw k.2.2.2 r.2) (mw k.2.2.2 σ) [(0, .ref (k.2.2.2.1 0)), (1, .int x1), (2, .int x2), (3, .int x3)] [] 4) (rc17 : St → Int32 → Int32 → Int32 → Int32 → Option (Int32 × St)) (hrc17 : ∀ (σ : St) (x1 : Int32) (x2 : Int32) (x3 : Int32) (x4 : Int32) (r : Int32 × St), rc17 σ x1 x2 x3 x4 = some r → G k X 6 (some (.int r.1)) (mw k.2.2.2 r.2) (mw k.2.2.2 σ) [(0, .ref (k.2.2.2.1 0)), (1, .int x1), (2, .int x2), (3, .int x3), (4, .int x4)] [] 17) (rc31 : St → Int32 → Int32 → Int32 → Int32 → Int32 → Option (Int32 × St)) (hrc31 : ∀ (σ : St) (x1 : Int32) (x2 : Int32) (x3 : Int32) (x4 : Int32) (x5 : Int32) (r : Int32 × St), rc31 σ x1 x2 x3 x4 x5 = some r → G k X 6 (some (.int r.1)) (mw k.2.2.2 r.2) (mw k.2.2.2 σ) [(0, .ref (k.2.2.2.1 0)), (1, .int x1), (2, .int x2), (3, .int x3), (4, .int x4), (5, .int x5)] [] 31) (σ : St) (x1 : Int32) (x2 : Int32) (x3 : Int32) (x4 : Int32) (x5 : Int32) (r : Int32 × St) (hf : fX9_ring_b100 rc4 rc17 rc31 σ x1 x2 x3 x4 x5 = some r) : G k X 6 (some (.int r.1)) (mw k.2.2.2 r.2) (mw k.2.2.2 σ) [(0, .ref (k.2.2.2.1 0)), (1, .int x1), (2, .int x2), (3, .int x3), (4, .int x4), (5, .int x5)] [] 100 := by
  unfold fX9_ring_b100 at hf
  refine g_iinc E 5 [(5, .int (x5 + (1 : Int32))), (0, .ref (k.2.2.2.1 0)), (1, .int x1), (2, .int x2), (3, .int x3), (4, .int x4)] (x5 + (1 : Int32)) dX9_ring_100 rfl (by rfl) (by decide) rfl ?_
  refine g_goto (tgt := 31) E dX9_ring_103 (by decide) ?_
  exact g_sub [1, 2, 3, 4, 5, 0] rfl (hrc31 σ x1 x2 x3 x4 (x5 + (1 : Int32)) r hf)
set_option maxHeartbeats 4000000 in
set_option maxRecDepth 100000 in
theorem fX9_ring_w31 {k : gK} {X : gX} (E : gE k X cX9_ring RX9 wsX9_ring 6 (some .int) rm_fX9_ring) (rc4 : St → Int32 → Int32 → Int32 → Option (Int32 × St)) (hrc4 : ∀ (σ : St) (x1 : Int32) (x2 : Int32) (x3 : Int32) (r : Int32 × St), rc4 σ x1 x2 x3 = some r → G k X 6 (some (.int r.1)) (mw k.2.2.2 r.2) (mw k.2.2.2 σ) [(0, .ref (k.2.2.2.1 0)), (1, .int x1), (2, .int x2), (3, .int x3)] [] 4) (rc17 : St → Int32 → Int32 → Int32 → Int32 → Option (Int32 × St)) (hrc17 : ∀ (σ : St) (x1 : Int32) (x2 : Int32) (x3 : Int32) (x4 : Int32) (r : Int32 × St), rc17 σ x1 x2 x3 x4 = some r → G k X 6 (some (.int r.1)) (mw k.2.2.2 r.2) (mw k.2.2.2 σ) [(0, .ref (k.2.2.2.1 0)), (1, .int x1), (2, .int x2), (3, .int x3), (4, .int x4)] [] 17) (rc31 : St → Int32 → Int32 → Int32 → Int32 → Int32 → Option (Int32 × St)) (hrc31 : ∀ (σ : St) (x1 : Int32) (x2 : Int32) (x3 : Int32) (x4 : Int32) (x5 : Int32) (r : Int32 × St), rc31 σ x1 x2 x3 x4 x5 = some r → G k X 6 (some (.int r.1)) (mw k.2.2.2 r.2) (mw k.2.2.2 σ) [(0, .ref (k.2.2.2.1 0)), (1, .int x1), (2, .int x2), (3, .int x3), (4, .int x4), (5, .int x5)] [] 31) (σ : St) (x1 : Int32) (x2 : Int32) (x3 : Int32) (x4 : Int32) (x5 : Int32) (r : Int32 × St) (hf : fX9_ring_b31 rc4 rc17 rc31 σ x1 x2 x3 x4 x5 = some r) : G k X 6 (some (.int r.1)) (mw k.2.2.2 r.2) (mw k.2.2.2 σ) [(0, .ref (k.2.2.2.1 0)), (1, .int x1), (2, .int x2), (3, .int x3), (4, .int x4), (5, .int x5)] [] 31 := by
  unfold fX9_ring_b31 at hf
  refine g_iload E 5 dX9_ring_31 rfl ?_
  refine g_aload_n E 0 dX9_ring_33 rfl rfl ?_
  refine g_get (C := RX9) (T := TX9) (N := 20) (ci := 9) E 0 3 (.int (σ.2.1 0)) hi_X9_ring_X9 (mwG0 _ _) rfl (by decide) hk_X9_ring_63 rfl dX9_ring_34 ?_
  refine g_icmp_ge (tgt := 106) E dX9_ring_37 (by decide) (fun c1 => ?_) (fun c1 => ?_)
  · have hf := gp hf c1
    refine g_iinc E 4 [(4, .int (x4 + (1 : Int32))), (0, .ref (k.2.2.2.1 0)), (1, .int x1), (2, .int x2), (3, .int x3), (5, .int x5)] (x4 + (1 : Int32)) dX9_ring_106 rfl (by rfl) (by decide) rfl ?_
    refine g_goto (tgt := 17) E dX9_ring_109 (by decide) ?_
    exact g_sub [1, 2, 3, 4, 0] rfl (hrc17 σ x1 x2 x3 (x4 + (1 : Int32)) r hf)
  · have hf := gn hf c1
    refine g_iload E 4 dX9_ring_40 rfl ?_
    refine g_iload E 5 dX9_ring_42 rfl ?_
    refine g_icmp_eq (tgt := 100) E dX9_ring_44 (by decide) (fun c2 => ?_) (fun c2 => ?_)
    · have hf := gp hf c2
      exact fX9_ring_w100 E rc4 hrc4 rc17 hrc17 rc31 hrc31 σ x1 x2 x3 x4 x5 r hf
    · have hf := gn hf c2
      refine g_aload_n E 0 dX9_ring_47 rfl rfl ?_
      refine g_iload_n E 3 dX9_ring_48 rfl rfl ?_
      refine g_iload E 4 dX9_ring_49 rfl ?_
      obtain ⟨q3, hq4, hf⟩ := gb hf
      refine g_callV (C := RX9) (T := TX9) (N := 20) (ci := 9) (As := [.int x3, .int x4]) (rest := []) (n := 2) E 0 (fX9_gave_c k σ x3 x4 q3 hq4) gX9_ring_X9_gave rfl rfl rfl (by decide +kernel) ⟨Nat.le_of_ble_eq_true rfl, Nat.le_of_ble_eq_true rfl⟩ rfl rfl (Nat.le_of_ble_eq_true rfl) rfl (mwG0 _ _) dX9_ring_51 ?_
      refine g_if_eq (tgt := 100) E dX9_ring_54 (by decide) (fun c5 => ?_) (fun c5 => ?_)
      · have hf := gp hf c5
        exact fX9_ring_w100 E rc4 hrc4 rc17 hrc17 rc31 hrc31 q3.2 x1 x2 x3 x4 x5 r hf
      · have hf := gn hf c5
        refine g_aload_n E 0 dX9_ring_57 rfl rfl ?_
        refine g_iload E 4 dX9_ring_58 rfl ?_
        refine g_iload E 5 dX9_ring_60 rfl ?_
        obtain ⟨q6, hq7, hf⟩ := gb hf
        refine g_callV (C := RX9) (T := TX9) (N := 20) (ci := 9) (As := [.int x4, .int x5]) (rest := []) (n := 2) E 0 (fX9_gave_c k q3.2 x4 x5 q6 hq7) gX9_ring_X9_gave rfl rfl rfl (by decide +kernel) ⟨Nat.le_of_ble_eq_true rfl, Nat.le_of_ble_eq_true rfl⟩ rfl rfl (Nat.le_of_ble_eq_true rfl) rfl (mwG0 _ _) dX9_ring_62 ?_
        refine g_if_eq (tgt := 100) E dX9_ring_65 (by decide) (fun c8 => ?_) (fun c8 => ?_)
        · have hf := gp hf c8
          exact fX9_ring_w100 E rc4 hrc4 rc17 hrc17 rc31 hrc31 q6.2 x1 x2 x3 x4 x5 r hf
        · have hf := gn hf c8
          refine g_aload_n E 0 dX9_ring_68 rfl rfl ?_
          refine g_iload E 5 dX9_ring_69 rfl ?_
          refine g_iload_n E 3 dX9_ring_71 rfl rfl ?_
          obtain ⟨q9, hq10, hf⟩ := gb hf
          refine g_callV (C := RX9) (T := TX9) (N := 20) (ci := 9) (As := [.int x5, .int x3]) (rest := []) (n := 2) E 0 (fX9_gave_c k q6.2 x5 x3 q9 hq10) gX9_ring_X9_gave rfl rfl rfl (by decide +kernel) ⟨Nat.le_of_ble_eq_true rfl, Nat.le_of_ble_eq_true rfl⟩ rfl rfl (Nat.le_of_ble_eq_true rfl) rfl (mwG0 _ _) dX9_ring_72 ?_
          refine g_if_eq (tgt := 100) E dX9_ring_75 (by decide) (fun c11 => ?_) (fun c11 => ?_)
          · have hf := gp hf c11
            exact fX9_ring_w100 E rc4 hrc4 rc17 hrc17 rc31 hrc31 q9.2 x1 x2 x3 x4 x5 r hf
          · have hf := gn hf c11
            refine g_iload_n E 2 dX9_ring_78 rfl rfl ?_
            refine g_iload_n E 1 dX9_ring_79 rfl rfl ?_
            refine g_icmp_ne (tgt := 97) E dX9_ring_80 (by decide) (fun c12 => ?_) (fun c12 => ?_)
            · have hf := gn hf c12
              refine g_iinc E 2 [(2, .int (x2 + (1 : Int32))), (0, .ref (k.2.2.2.1 0)), (1, .int x1), (3, .int x3), (4, .int x4), (5, .int x5)] (x2 + (1 : Int32)) dX9_ring_97 rfl (by rfl) (by decide) rfl ?_
              exact g_sub [1, 2, 0, 3, 4, 5] rfl (fX9_ring_w100 E rc4 hrc4 rc17 hrc17 rc31 hrc31 q9.2 x1 (x2 + (1 : Int32)) x3 x4 x5 r hf)
            · have hf := gp hf c12
              refine g_bipush (v := (100 : Int32)) E dX9_ring_83 (by decide) ?_
              refine g_iload_n E 3 dX9_ring_85 rfl rfl ?_
              refine g_imul E dX9_ring_86 ?_
              refine g_bipush (v := (10 : Int32)) E dX9_ring_87 (by decide) ?_
              refine g_iload E 4 dX9_ring_89 rfl ?_
              refine g_imul E dX9_ring_91 ?_
              refine g_iadd E dX9_ring_92 ?_
              refine g_iload E 5 dX9_ring_93 rfl ?_
              refine g_iadd E dX9_ring_95 ?_
              have hf := Option.some.inj hf
              subst hf
              exact g_iret E dX9_ring_96
theorem fX9_ring_v31 {k : gK} {X : gX} (E : gE k X cX9_ring RX9 wsX9_ring 6 (some .int) rm_fX9_ring) (rc4 : St → Int32 → Int32 → Int32 → Option (Int32 × St)) (hrc4 : ∀ (σ : St) (x1 : Int32) (x2 : Int32) (x3 : Int32) (r : Int32 × St), rc4 σ x1 x2 x3 = some r → G k X 6 (some (.int r.1)) (mw k.2.2.2 r.2) (mw k.2.2.2 σ) [(0, .ref (k.2.2.2.1 0)), (1, .int x1), (2, .int x2), (3, .int x3)] [] 4) (rc17 : St → Int32 → Int32 → Int32 → Int32 → Option (Int32 × St)) (hrc17 : ∀ (σ : St) (x1 : Int32) (x2 : Int32) (x3 : Int32) (x4 : Int32) (r : Int32 × St), rc17 σ x1 x2 x3 x4 = some r → G k X 6 (some (.int r.1)) (mw k.2.2.2 r.2) (mw k.2.2.2 σ) [(0, .ref (k.2.2.2.1 0)), (1, .int x1), (2, .int x2), (3, .int x3), (4, .int x4)] [] 17) : ∀ (n : Nat) (σ : St) (x1 : Int32) (x2 : Int32) (x3 : Int32) (x4 : Int32) (x5 : Int32) (r : Int32 × St), fX9_ring_l31 rc4 rc17 n σ x1 x2 x3 x4 x5 = some r → G k X 6 (some (.int r.1)) (mw k.2.2.2 r.2) (mw k.2.2.2 σ) [(0, .ref (k.2.2.2.1 0)), (1, .int x1), (2, .int x2), (3, .int x3), (4, .int x4), (5, .int x5)] [] 31 := by
  intro n
  induction n with
  | zero => intro σ x1 x2 x3 x4 x5 r hf; cases hf
  | succ n ih => intro σ x1 x2 x3 x4 x5 r hf; exact fX9_ring_w31 E rc4 hrc4 rc17 hrc17 (fX9_ring_l31 rc4 rc17 n) ih σ x1 x2 x3 x4 x5 r hf
set_option maxHeartbeats 4000000 in
set_option maxRecDepth 100000 in
theorem fX9_ring_w17 {k : gK} {X : gX} (E : gE k X cX9_ring RX9 wsX9_ring 6 (some .int) rm_fX9_ring) (rc4 : St → Int32 → Int32 → Int32 → Option (Int32 × St)) (hrc4 : ∀ (σ : St) (x1 : Int32) (x2 : Int32) (x3 : Int32) (r : Int32 × St), rc4 σ x1 x2 x3 = some r → G k X 6 (some (.int r.1)) (mw k.2.2.2 r.2) (mw k.2.2.2 σ) [(0, .ref (k.2.2.2.1 0)), (1, .int x1), (2, .int x2), (3, .int x3)] [] 4) (rc17 : St → Int32 → Int32 → Int32 → Int32 → Option (Int32 × St)) (hrc17 : ∀ (σ : St) (x1 : Int32) (x2 : Int32) (x3 : Int32) (x4 : Int32) (r : Int32 × St), rc17 σ x1 x2 x3 x4 = some r → G k X 6 (some (.int r.1)) (mw k.2.2.2 r.2) (mw k.2.2.2 σ) [(0, .ref (k.2.2.2.1 0)), (1, .int x1), (2, .int x2), (3, .int x3), (4, .int x4)] [] 17) (σ : St) (x1 : Int32) (x2 : Int32) (x3 : Int32) (x4 : Int32) (r : Int32 × St) (hf : fX9_ring_b17 rc4 rc17 σ x1 x2 x3 x4 = some r) : G k X 6 (some (.int r.1)) (mw k.2.2.2 r.2) (mw k.2.2.2 σ) [(0, .ref (k.2.2.2.1 0)), (1, .int x1), (2, .int x2), (3, .int x3), (4, .int x4)] [] 17 := by
  unfold fX9_ring_b17 at hf
  refine g_iload E 4 dX9_ring_17 rfl ?_
  refine g_aload_n E 0 dX9_ring_19 rfl rfl ?_
  refine g_get (C := RX9) (T := TX9) (N := 20) (ci := 9) E 0 3 (.int (σ.2.1 0)) hi_X9_ring_X9 (mwG0 _ _) rfl (by decide) hk_X9_ring_63 rfl dX9_ring_20 ?_
  refine g_icmp_ge (tgt := 112) E dX9_ring_23 (by decide) (fun c1 => ?_) (fun c1 => ?_)
  · have hf := gp hf c1
    refine g_iinc E 3 [(3, .int (x3 + (1 : Int32))), (0, .ref (k.2.2.2.1 0)), (1, .int x1), (2, .int x2), (4, .int x4)] (x3 + (1 : Int32)) dX9_ring_112 rfl (by rfl) (by decide) rfl ?_
    refine g_goto (tgt := 4) E dX9_ring_115 (by decide) ?_
    exact g_sub [1, 2, 3, 0] rfl (hrc4 σ x1 x2 (x3 + (1 : Int32)) r hf)
  · have hf := gn hf c1
    refine g_iload_n E 3 dX9_ring_26 rfl rfl ?_
    refine g_iconst (v := (1 : Int32)) E dX9_ring_27 (by decide) ?_
    refine g_iadd E dX9_ring_28 ?_
    refine g_istore E [(5, .int (x3 + (1 : Int32))), (0, .ref (k.2.2.2.1 0)), (1, .int x1), (2, .int x2), (3, .int x3), (4, .int x4)] dX9_ring_29 (by decide) rfl ?_
    exact g_sub [1, 2, 3, 4, 5, 0] rfl (fX9_ring_v31 E rc4 hrc4 rc17 hrc17 gF σ x1 x2 x3 x4 (x3 + (1 : Int32)) r hf)
theorem fX9_ring_v17 {k : gK} {X : gX} (E : gE k X cX9_ring RX9 wsX9_ring 6 (some .int) rm_fX9_ring) (rc4 : St → Int32 → Int32 → Int32 → Option (Int32 × St)) (hrc4 : ∀ (σ : St) (x1 : Int32) (x2 : Int32) (x3 : Int32) (r : Int32 × St), rc4 σ x1 x2 x3 = some r → G k X 6 (some (.int r.1)) (mw k.2.2.2 r.2) (mw k.2.2.2 σ) [(0, .ref (k.2.2.2.1 0)), (1, .int x1), (2, .int x2), (3, .int x3)] [] 4) : ∀ (n : Nat) (σ : St) (x1 : Int32) (x2 : Int32) (x3 : Int32) (x4 : Int32) (r : Int32 × St), fX9_ring_l17 rc4 n σ x1 x2 x3 x4 = some r → G k X 6 (some (.int r.1)) (mw k.2.2.2 r.2) (mw k.2.2.2 σ) [(0, .ref (k.2.2.2.1 0)), (1, .int x1), (2, .int x2), (3, .int x3), (4, .int x4)] [] 17 := by
  intro n
  induction n with
  | zero => intro σ x1 x2 x3 x4 r hf; cases hf
  | succ n ih => intro σ x1 x2 x3 x4 r hf; exact fX9_ring_w17 E rc4 hrc4 (fX9_ring_l17 rc4 n) ih σ x1 x2 x3 x4 r hf
set_option maxHeartbeats 4000000 in
set_option maxRecDepth 100000 in
theorem fX9_ring_w4 {k : gK} {X : gX} (E : gE k X cX9_ring RX9 wsX9_ring 6 (some .int) rm_fX9_ring) (rc4 : St → Int32 → Int32 → Int32 → Option (Int32 × St)) (hrc4 : ∀ (σ : St) (x1 : Int32) (x2 : Int32) (x3 : Int32) (r : Int32 × St), rc4 σ x1 x2 x3 = some r → G k X 6 (some (.int r.1)) (mw k.2.2.2 r.2) (mw k.2.2.2 σ) [(0, .ref (k.2.2.2.1 0)), (1, .int x1), (2, .int x2), (3, .int x3)] [] 4) (σ : St) (x1 : Int32) (x2 : Int32) (x3 : Int32) (r : Int32 × St) (hf : fX9_ring_b4 rc4 σ x1 x2 x3 = some r) : G k X 6 (some (.int r.1)) (mw k.2.2.2 r.2) (mw k.2.2.2 σ) [(0, .ref (k.2.2.2.1 0)), (1, .int x1), (2, .int x2), (3, .int x3)] [] 4 := by
  unfold fX9_ring_b4 at hf
  refine g_iload_n E 3 dX9_ring_4 rfl rfl ?_
  refine g_aload_n E 0 dX9_ring_5 rfl rfl ?_
  refine g_get (C := RX9) (T := TX9) (N := 20) (ci := 9) E 0 3 (.int (σ.2.1 0)) hi_X9_ring_X9 (mwG0 _ _) rfl (by decide) hk_X9_ring_63 rfl dX9_ring_6 ?_
  refine g_icmp_ge (tgt := 118) E dX9_ring_9 (by decide) (fun c1 => ?_) (fun c1 => ?_)
  · have hf := gp hf c1
    refine g_iload_n E 1 dX9_ring_118 rfl rfl ?_
    refine g_iconst (v := (-1 : Int32)) E dX9_ring_119 (by decide) ?_
    refine g_icmp_ne (tgt := 127) E dX9_ring_120 (by decide) (fun c2 => ?_) (fun c2 => ?_)
    · have hf := gn hf c2
      refine g_bipush (v := (-6 : Int32)) E dX9_ring_127 (by decide) ?_
      have hf := Option.some.inj hf
      subst hf
      exact g_iret E dX9_ring_129
    · have hf := gp hf c2
      refine g_iload_n E 2 dX9_ring_123 rfl rfl ?_
      refine g_goto (tgt := 129) E dX9_ring_124 (by decide) ?_
      have hf := Option.some.inj hf
      subst hf
      exact g_iret E dX9_ring_129
  · have hf := gn hf c1
    refine g_iload_n E 3 dX9_ring_12 rfl rfl ?_
    refine g_iconst (v := (1 : Int32)) E dX9_ring_13 (by decide) ?_
    refine g_iadd E dX9_ring_14 ?_
    refine g_istore E [(4, .int (x3 + (1 : Int32))), (0, .ref (k.2.2.2.1 0)), (1, .int x1), (2, .int x2), (3, .int x3)] dX9_ring_15 (by decide) rfl ?_
    exact g_sub [1, 2, 3, 4, 0] rfl (fX9_ring_v17 E rc4 hrc4 gF σ x1 x2 x3 (x3 + (1 : Int32)) r hf)
theorem fX9_ring_v4 {k : gK} {X : gX} (E : gE k X cX9_ring RX9 wsX9_ring 6 (some .int) rm_fX9_ring) : ∀ (n : Nat) (σ : St) (x1 : Int32) (x2 : Int32) (x3 : Int32) (r : Int32 × St), fX9_ring_l4 n σ x1 x2 x3 = some r → G k X 6 (some (.int r.1)) (mw k.2.2.2 r.2) (mw k.2.2.2 σ) [(0, .ref (k.2.2.2.1 0)), (1, .int x1), (2, .int x2), (3, .int x3)] [] 4 := by
  intro n
  induction n with
  | zero => intro σ x1 x2 x3 r hf; cases hf
  | succ n ih => intro σ x1 x2 x3 r hf; exact fX9_ring_w4 E (fX9_ring_l4 n) ih σ x1 x2 x3 r hf
set_option maxHeartbeats 4000000 in
set_option maxRecDepth 100000 in
theorem fX9_ring_c (k : gK) (σ : St) (x1 : Int32) (r : Int32 × St) (hf : fX9_ring σ x1 = some r) : MC k yX9_ring wsX9_ring rm_fX9_ring [.ref (k.2.2.2.1 0), .int x1] (mw k.2.2.2 σ) (some (.int r.1)) (mw k.2.2.2 r.2) := by
  refine MC_of (cc := cX9_ring) (maxL := 6) (ret := (some .int)) (own := RX9) (lvs := [(0, .ref (k.2.2.2.1 0)), (1, .int x1)]) (by decide) rfl rfl (Nat.le_of_ble_eq_true rfl) rfl (fun X E => ?_)
  unfold fX9_ring at hf
  refine g_iconst (v := (0 : Int32)) E dX9_ring_0 (by decide) ?_
  refine g_istore_n E [(2, .int (0 : Int32)), (0, .ref (k.2.2.2.1 0)), (1, .int x1)] dX9_ring_1 rfl (by decide) rfl ?_
  refine g_iconst (v := (0 : Int32)) E dX9_ring_2 (by decide) ?_
  refine g_istore_n E [(3, .int (0 : Int32)), (2, .int (0 : Int32)), (0, .ref (k.2.2.2.1 0)), (1, .int x1)] dX9_ring_3 rfl (by decide) rfl ?_
  exact g_sub [2, 3, 1, 0] rfl (fX9_ring_v4 E gF σ x1 (0 : Int32) (0 : Int32) r hf)
