def fw (V : gV) (σ : St) : va_W := [(V.1 0, .inl (V.2.1, 36, .inl (σ.1 0)))]
theorem fwG0 (V : gV) (σ : St) : (fw V σ)[0]? = some (V.1 0, .inl (V.2.1, 36, .inl (σ.1 0))) := rfl
theorem fwA0 (V : gV) (σ : St) (i : Nat) (x : Int32) : (fw V σ).set 0 (V.1 0, .inl (V.2.1, 36, .inl (upd (σ.1 0) i x))) = fw V (uA σ 0 i x) := rfl
def fJ7_fill_53178_0_b5 (rc5 : St → Int32 → Int32 → Int32 → Option (Unit × St)) (σ : St) (x1 : Int32) (x2 : Int32) (x3 : Int32) : Option (Unit × St) :=
  if x3 ≤ x2 then some ((), σ) else if ib x2 36 = true then rc5 (uA σ 0 x2.toNatClampNeg x1) x1 (x2 + (1 : Int32)) x3 else none
def fJ7_fill_53178_0_l5 : Nat → St → Int32 → Int32 → Int32 → Option (Unit × St)
  | 0 => fun _ _ _ _ => none
  | n + 1 => fun σ x1 x2 x3 => fJ7_fill_53178_0_b5 (fJ7_fill_53178_0_l5 n) σ x1 x2 x3 
def fJ7_fill_53178_0 (σ : St) (x1 : Int32) : Option (Unit × St) :=
  fJ7_fill_53178_0_l5 gF σ x1 (0 : Int32) (36 : Int32)
def rm_fJ7_fill_53178_0 : Room := { frames := 0, cells := 0, slots := 0, locals := 0 }
set_option maxHeartbeats 4000000 in
set_option maxRecDepth 100000 in
theorem fJ7_fill_53178_0_w5 {k : gK} {X : gX} (E : gE k X cJ7_fill_53178 RJ7 wsJ7_fill_53178 4 none rm_fJ7_fill_53178_0) (rc5 : St → Int32 → Int32 → Int32 → Option (Unit × St)) (hrc5 : ∀ (σ : St) (x1 : Int32) (x2 : Int32) (x3 : Int32) (r : Unit × St), rc5 σ x1 x2 x3 = some r → G k X 4 (none) (fw k.2.2.2 r.2) (fw k.2.2.2 σ) [(0, .ref (k.2.2.2.1 0)), (1, .int x1), (2, .int x2), (3, .int x3)] [] 5) (σ : St) (x1 : Int32) (x2 : Int32) (x3 : Int32) (r : Unit × St) (hf : fJ7_fill_53178_0_b5 rc5 σ x1 x2 x3 = some r) : G k X 4 (none) (fw k.2.2.2 r.2) (fw k.2.2.2 σ) [(0, .ref (k.2.2.2.1 0)), (1, .int x1), (2, .int x2), (3, .int x3)] [] 5 := by
  unfold fJ7_fill_53178_0_b5 at hf
  refine g_iload_n E 2 dJ7_fill_53178_5 rfl rfl ?_
  refine g_iload_n E 3 dJ7_fill_53178_6 rfl rfl ?_
  refine g_icmp_ge (tgt := 20) E dJ7_fill_53178_7 (by decide) (fun c1 => ?_) (fun c1 => ?_)
  · have hf := gp hf c1
    have hf := Option.some.inj hf
    subst hf
    exact g_vret E dJ7_fill_53178_20
  · have hf := gn hf c1
    refine g_aload_n E 0 dJ7_fill_53178_10 rfl rfl ?_
    refine g_iload_n E 2 dJ7_fill_53178_11 rfl rfl ?_
    refine g_iload_n E 1 dJ7_fill_53178_12 rfl rfl ?_
    obtain ⟨hi2, hf⟩ := gd hf
    refine g_iast E 0 (fw k.2.2.2 (uA σ 0 x2.toNatClampNeg x1)) (σ.1 0) (fwG0 _ _) hi2 (fwA0 _ _ _ _) dJ7_fill_53178_13 ?_
    refine g_iinc E 2 [(2, .int (x2 + (1 : Int32))), (0, .ref (k.2.2.2.1 0)), (1, .int x1), (3, .int x3)] (x2 + (1 : Int32)) dJ7_fill_53178_14 rfl (by rfl) (by decide) rfl ?_
    refine g_goto (tgt := 5) E dJ7_fill_53178_17 (by decide) ?_
    exact g_sub [1, 2, 0, 3] rfl (hrc5 (uA σ 0 x2.toNatClampNeg x1) x1 (x2 + (1 : Int32)) x3 r hf)
theorem fJ7_fill_53178_0_v5 {k : gK} {X : gX} (E : gE k X cJ7_fill_53178 RJ7 wsJ7_fill_53178 4 none rm_fJ7_fill_53178_0) : ∀ (n : Nat) (σ : St) (x1 : Int32) (x2 : Int32) (x3 : Int32) (r : Unit × St), fJ7_fill_53178_0_l5 n σ x1 x2 x3 = some r → G k X 4 (none) (fw k.2.2.2 r.2) (fw k.2.2.2 σ) [(0, .ref (k.2.2.2.1 0)), (1, .int x1), (2, .int x2), (3, .int x3)] [] 5 := by
  intro n
  induction n with
  | zero => intro σ x1 x2 x3 r hf; cases hf
  | succ n ih => intro σ x1 x2 x3 r hf; exact fJ7_fill_53178_0_w5 E (fJ7_fill_53178_0_l5 n) ih σ x1 x2 x3 r hf
set_option maxHeartbeats 4000000 in
set_option maxRecDepth 100000 in
theorem fJ7_fill_53178_0_c (k : gK) (σ : St) (x1 : Int32) (r : Unit × St) (hf : fJ7_fill_53178_0 σ x1 = some r) : MC k yJ7_fill_53178 wsJ7_fill_53178 rm_fJ7_fill_53178_0 [.ref (k.2.2.2.1 0), .int x1] (fw k.2.2.2 σ) (none) (fw k.2.2.2 r.2) := by
  refine MC_of (cc := cJ7_fill_53178) (maxL := 4) (ret := none) (own := RJ7) (lvs := [(0, .ref (k.2.2.2.1 0)), (1, .int x1)]) (by decide) rfl rfl (Nat.le_of_ble_eq_true rfl) rfl (fun X E => ?_)
  unfold fJ7_fill_53178_0 at hf
  refine g_iconst (v := (0 : Int32)) E dJ7_fill_53178_0 (by decide) ?_
  refine g_istore_n E [(2, .int (0 : Int32)), (0, .ref (k.2.2.2.1 0)), (1, .int x1)] dJ7_fill_53178_1 rfl (by decide) rfl ?_
  refine g_aload_n E 1 dJ7_fill_53178_2 rfl rfl ?_
  refine g_alenI (v := (36 : Int32)) E 0 (σ.1 0) (fwG0 _ _) (by decide) dJ7_fill_53178_3 ?_
  refine g_istore_n E [(3, .int (36 : Int32)), (2, .int (0 : Int32)), (0, .ref (k.2.2.2.1 0)), (1, .int x1)] dJ7_fill_53178_4 rfl (by decide) rfl ?_
  exact g_sub [2, 3, 1, 0] rfl (fJ7_fill_53178_0_v5 E gF σ x1 (0 : Int32) (36 : Int32) r hf)
/-! ===== constructors: worlds that grow ===== -/
def gQc (D : va_G) (A : Nat → Prop) (Po : va_W → Prop) : Array Value → State → Outcome → State → Prop := fun _ st oc t => oc = .returned none ∧ (∃ wf, Po wf ∧ va_P D vwCl wf t.heap ∧ va_D A wf) ∧ va_F A st t
def gEc (k : gK) (X : gX) (cc : ByteArray) (own : String) (Ts : List Cond) (nL : Nat) (R0 : Room) : Prop := match k, X with
  | (_, D, A, V), (p, _, R, s, m, args, _, meth, c) => p.tables.exec = Jvm.exec ∧ c.code = cc ∧ c.maxLocals = nL ∧ s.vm.findClass own = some m.cls ∧ (∀ w ∈ Ts, w.before args s = true) ∧ va_K D vwCl (gT V) s ∧ meth.sig.returnType = none ∧ meth.locks = false ∧ gN s ∧ R = R0 ∧ meth.name = "<init>" ∧ (∀ q, s.heap.size ≤ q → A q)
def Gc (k : gK) (X : gX) (nL mc ms : Nat) (Po : va_W → Prop) (n z : Nat) (w : va_W) (lv : List (Nat × Value)) (st : List Value) (pc : Nat) : Prop := match k, X with
  | (l, D, A, _), (p, e, R, s, m, args, below, meth, c) => ∀ (H : Heap) (locs : List Loc) (ls : Array Slot), va_P D vwCl w H → va_D A w → va_S A s.heap H locs → lv_has ls nL lv → W p l e R s m args below meth c H locs n z (MQ below (gQc D A Po) args s mc ms A) (F0 m pc ls st)
def gPreI (D : va_G) (V : gV) (w0 : va_W) (sz : Nat) (U : State) : Prop := U.heap.size = sz ∧ va_P D vwCl w0 U.heap ∧ va_D (fun _ => True) w0 ∧ va_K D vwCl (gT V) U ∧ gN U
def MI (l : Launch) (D : va_G) (V : gV) (y : MethodName) (ws : List Cond) (rm : Room) (av : List Value) (w0 : va_W) (sz mc ms : Nat) (Po : va_W → Prop) : Prop := Met l y ws rm (va_Pc av (gPreI D V w0 sz)) (gQc D (va_A w0 sz) Po) mc ms (va_A w0 sz)
theorem gBlindI (D : va_G) (V : gV) (w0 : va_W) (sz : Nat) (av : List Value) : FrameBlind (va_Pc av (gPreI D V w0 sz)) := by
  intro a U g mk h
  obtain ⟨h0, hz, hP, hD, hK, hN⟩ := h
  exact ⟨h0, hz, hP, hD, va_K.moved (u := U) (U := U.calling g mk a) (Vm.Alike.refl U.vm) hK, hN.call⟩
section GCR
variable {k : gK} {X : gX} {cc : ByteArray} {own : String} {Ts : List Cond} {nL mc ms : Nat} {R0 : Room} {Po : va_W → Prop} {n z : Nat} {w : va_W} {lv : List (Nat × Value)} {st : List Value} {pc : Nat}

theorem c_iconst (E : gEc k X cc own Ts nL R0) {i : Int} {v : Int32} (hd : decode cc pc = .ok (.iconst i, 1)) (hv : Int32.ofInt i = v) (nx : Gc k X nL mc ms Po n z w lv (.int v :: st) (pc + 1)) : Gc k X nL mc ms Po n z w lv st pc := by
  obtain ⟨l, D, A, V⟩ := k
  obtain ⟨p, e, R, s, m, args, below, meth, c⟩ := X
  obtain ⟨hx, hb, hml, hown, hts, hK, hr, hlk, hN, hR, hnm, hA⟩ := E
  intro H locs ls hP hD hS hl
  exact lv_iconst hx hb hd hv (nx H locs ls hP hD hS hl)

theorem c_bipush (E : gEc k X cc own Ts nL R0) {i : Int} {v : Int32} (hd : decode cc pc = .ok (.bipush i, 2)) (hv : (Int8.ofInt i).toInt32 = v) (nx : Gc k X nL mc ms Po n z w lv (.int v :: st) (pc + 2)) : Gc k X nL mc ms Po n z w lv st pc := by
  obtain ⟨l, D, A, V⟩ := k
  obtain ⟨p, e, R, s, m, args, below, meth, c⟩ := X
  obtain ⟨hx, hb, hml, hown, hts, hK, hr, hlk, hN, hR, hnm, hA⟩ := E
  intro H locs ls hP hD hS hl
  exact lv_bipush hx hb hd hv (nx H locs ls hP hD hS hl)

theorem c_ldc (E : gEc k X cc own Ts nL R0) {ix : Nat} {v : Int32} (hm : Cond.constant own ix v ∈ Ts) (hd : decode cc pc = .ok (.ldc ix, 2)) (nx : Gc k X nL mc ms Po n z w lv (.int v :: st) (pc + 2)) : Gc k X nL mc ms Po n z w lv st pc := by
  obtain ⟨l, D, A, V⟩ := k
  obtain ⟨p, e, R, s, m, args, below, meth, c⟩ := X
  obtain ⟨hx, hb, hml, hown, hts, hK, hr, hlk, hN, hR, hnm, hA⟩ := E
  intro H locs ls hP hD hS hl
  exact lv_ldc hx hb hown (hts _ hm) hd (nx H locs ls hP hD hS hl)

theorem c_aload_n (E : gEc k X cc own Ts nL R0) {f : Fin 4} {i : Nat} {x : Nat} (j : Nat) (hd : decode cc pc = .ok (.aload_n f, 1)) (hi : (f : Nat) = i) (hj : lv[j]? = some (i, .ref x)) (nx : Gc k X nL mc ms Po n z w lv (.ref x :: st) (pc + 1)) : Gc k X nL mc ms Po n z w lv st pc := by
  obtain ⟨l, D, A, V⟩ := k
  obtain ⟨p, e, R, s, m, args, below, meth, c⟩ := X
  obtain ⟨hx, hb, hml, hown, hts, hK, hr, hlk, hN, hR, hnm, hA⟩ := E
  intro H locs ls hP hD hS hl
  exact lv_aload_n hx hb hd hi (lv_at hl j hj) (nx H locs ls hP hD hS hl)

theorem c_dup (E : gEc k X cc own Ts nL R0) {va : Value} (hd : decode cc pc = .ok (.dup, 1)) (ha : va.category = 1) (nx : Gc k X nL mc ms Po n z w lv (va :: va :: st) (pc + 1)) : Gc k X nL mc ms Po n z w lv (va :: st) pc := by
  obtain ⟨l, D, A, V⟩ := k
  obtain ⟨p, e, R, s, m, args, below, meth, c⟩ := X
  obtain ⟨hx, hb, hml, hown, hts, hK, hr, hlk, hN, hR, hnm, hA⟩ := E
  intro H locs ls hP hD hS hl
  exact lv_dup hx hb hd ha (nx H locs ls hP hD hS hl)

theorem c_objInit (E : gEc k X cc own Ts nL R0) {ix a : Nat} (h1 : Cond.methodLink own ix Lib.objectInit ∈ Ts) (h2 : Cond.instanceMethod Lib.objectInit ∈ Ts) (h3 : Cond.code Lib.objectInit ⟨#[0xb1]⟩ 1 none ∈ Ts) (hfr : 1 ≤ R0.frames) (hlo : 12 ≤ R0.locals) (hd : decode cc pc = .ok (.invokespecial ix, 3)) (nx : Gc k X nL mc ms Po n z w lv [] (pc + 3)) : Gc k X nL mc ms Po n z w lv [.ref a] pc := by
  obtain ⟨l, D, A, V⟩ := k
  obtain ⟨p, e, R, s, m, args, below, meth, c⟩ := X
  obtain ⟨hx, hb, hml, hown, hts, hK, hr, hlk, hN, hR, hnm, hA⟩ := E
  intro H locs ls hP hD hS hl
  subst hR
  refine W.objInit hx hb hown (hts _ h1) (hts _ h2) (hts _ h3) rfl (by rw [hml]; exact hl.1) rfl hd hfr (by simpa using hlo) ?_
  exact W.eq (g2 := F0 m (pc + 3) ls []) rfl (nx H locs ls hP hD hS hl)

theorem c_newaI (E : gEc k X cc own Ts nL R0) {v : Int32} {N : Nat} (harr : Cond.arrayClass .int ∈ Ts) (hn : ¬ v < 0) (hNv : v.toNatClampNeg = N) (hby : N * componentBytes .int ≤ 536870912) (hc : n + 1 ≤ R0.cells) (hs : z + N ≤ R0.slots) (hd : decode cc pc = .ok (.newarray .int, 2)) (nx : ∀ q : Nat, Gc k X nL mc ms Po (n + 1) (z + N) (w ++ [(q, .inl (k.2.2.2.2.1, N, .inl (fun _ => 0)))]) lv (.ref q :: st) (pc + 2)) : Gc k X nL mc ms Po n z w lv (.int v :: st) pc := by
  obtain ⟨l, D, A, V⟩ := k
  obtain ⟨p, e, R, s, m, args, below, meth, c⟩ := X
  obtain ⟨hx, hb, hml, hown, hts, hK, hr, hlk, hN, hR, hnm, hA⟩ := E
  intro H locs ls hP hD hS hl
  subst hR
  refine va_newa (atype := .int) (ty := .int) (a0 := (N, .inl (fun _ => 0))) hx hb (hts _ harr) rfl hK hP hD hS hA (fun _ => rfl) hn hNv hby hc hs hd (fun q cA H1 hK1 hP1 hD1 hS1 => ?_)
  have e1 := (hK1.2 2 (cA, .int) rfl).2
  have e2 := (hK.2 0 _ rfl).2
  have e3 : cA = V.2.1 := Option.some.inj (e1.symm.trans e2)
  subst e3
  exact nx q H1 locs ls hP1 hD1 hS1 hl

theorem c_newaJ (E : gEc k X cc own Ts nL R0) {v : Int32} {N : Nat} (harr : Cond.arrayClass .long ∈ Ts) (hn : ¬ v < 0) (hNv : v.toNatClampNeg = N) (hby : N * componentBytes .long ≤ 536870912) (hc : n + 1 ≤ R0.cells) (hs : z + N ≤ R0.slots) (hd : decode cc pc = .ok (.newarray .long, 2)) (nx : ∀ q : Nat, Gc k X nL mc ms Po (n + 1) (z + N) (w ++ [(q, .inl (k.2.2.2.2.2, N, .inr (.inl (fun _ => 0))))]) lv (.ref q :: st) (pc + 2)) : Gc k X nL mc ms Po n z w lv (.int v :: st) pc := by
  obtain ⟨l, D, A, V⟩ := k
  obtain ⟨p, e, R, s, m, args, below, meth, c⟩ := X
  obtain ⟨hx, hb, hml, hown, hts, hK, hr, hlk, hN, hR, hnm, hA⟩ := E
  intro H locs ls hP hD hS hl
  subst hR
  refine va_newa (atype := .long) (ty := .long) (a0 := (N, .inr (.inl (fun _ => 0)))) hx hb (hts _ harr) rfl hK hP hD hS hA (fun _ => rfl) hn hNv hby hc hs hd (fun q cA H1 hK1 hP1 hD1 hS1 => ?_)
  have e1 := (hK1.2 2 (cA, .long) rfl).2
  have e2 := (hK.2 1 _ rfl).2
  have e3 : cA = V.2.2 := Option.some.inj (e1.symm.trans e2)
  subst e3
  exact nx q H1 locs ls hP1 hD1 hS1 hl

theorem c_new (E : gEc k X cc own Ts nL R0) {C : String} {T : u_T} {N ci ix : Nat} (ty : Nat → FieldType) (fs : List Value) (hin : ∀ w ∈ u_ws C T N, w ∈ Ts) (hty : ∀ k, k < N → parseFieldDescriptor (T k).2.2.1 = some (ty k)) (h1 : Cond.classLink own ix C ∈ Ts) (h2 : Cond.instantiable C N ∈ Ts) (h3 : Cond.initialized C ∈ Ts) (hcl : vwCl[ci]? = some (C, T, N)) (hfs : ∀ j, j < N → defaultValue (ty j) = vp_V fs j) (hc : n + 1 ≤ R0.cells) (hs : z + N ≤ R0.slots) (hd : decode cc pc = .ok (.new ix, 3)) (nx : ∀ q : Nat, Gc k X nL mc ms Po (n + 1) (z + N) (w ++ [(q, .inr (ci, fs))]) lv (.ref q :: st) (pc + 3)) : Gc k X nL mc ms Po n z w lv st pc := by
  obtain ⟨l, D, A, V⟩ := k
  obtain ⟨p, e, R, s, m, args, below, meth, c⟩ := X
  obtain ⟨hx, hb, hml, hown, hts, hK, hr, hlk, hN, hR, hnm, hA⟩ := E
  intro H locs ls hP hD hS hl
  subst hR
  exact va_new hx hb hts hin ty hty hown (hts _ h1) (hts _ h2) (hts _ h3) hK hP hD hS hA hcl hfs hc hs hd (fun q H1 hP1 hD1 hS1 => nx q H1 locs ls hP1 hD1 hS1 hl)

theorem c_get (E : gEc k X cc own Ts nL R0) {a ci N ix : Nat} {C : String} {T : u_T} {fs : List Value} (q0 kf : Nat) (v : Value) (hin : ∀ w ∈ u_ws C T N, w ∈ Ts) (he : w[q0]? = some (a, .inr (ci, fs))) (hc : vwCl[ci]? = some (C, T, N)) (hk : kf < N) (hm : Cond.fieldLink own ix (T kf).1 (T kf).2.1 (T kf).2.2.1 ∈ Ts) (hv : fs[kf]? = some v) (hd : decode cc pc = .ok (.getfield ix, 3)) (nx : Gc k X nL mc ms Po n z w lv (v :: st) (pc + 3)) : Gc k X nL mc ms Po n z w lv (.ref a :: st) pc := by
  obtain ⟨l, D, A, V⟩ := k
  obtain ⟨p, e, R, s, m, args, below, meth, c⟩ := X
  obtain ⟨hx, hb, hml, hown, hts, hK, hr, hlk, hN, hR, hnm, hA⟩ := E
  intro H locs ls hP hD hS hl
  exact va_get hx hb hts hin hown hK hP q0 he hc kf hk (hts _ hm) (fun _ h => h) hv hd (nx H locs ls hP hD hS hl)

theorem c_putF (E : gEc k X cc own Ts nL R0) {a ci N ix x : Nat} {C : String} {T : u_T} {fs : List Value} {ty : FieldType} (q0 kf : Nat) (w' : va_W) (hin : ∀ w ∈ u_ws C T N, w ∈ Ts) (ty0 : Nat → FieldType) (hty : ∀ k, k < N → parseFieldDescriptor (T k).2.2.1 = some (ty0 k)) (hnm' : ∀ a, a < N → ∀ b, b < N → a ≠ b → (T a).2.1 ≠ (T b).2.1) (he : w[q0]? = some (a, .inr (ci, fs))) (hc : vwCl[ci]? = some (C, T, N)) (hk : kf < N) (hm : Cond.fieldLink own ix (T kf).1 (T kf).2.1 (T kf).2.2.1 ∈ Ts) (hfin : (T kf).2.2.2 = true) (hdecl : (T kf).1 = own) (hpd : parseFieldDescriptor (T kf).2.2.1 = some ty) (hna : narrow ty (.ref x) = .ref x) (hfit : fits ty (.ref x) = true) (hlen : kf < fs.length) (hw : w.set q0 (a, .inr (ci, fs.set kf (.ref x))) = w') (hd : decode cc pc = .ok (.putfield ix, 3)) (nx : Gc k X nL mc ms Po n z w' lv st (pc + 3)) : Gc k X nL mc ms Po n z w lv (.ref x :: .ref a :: st) pc := by
  obtain ⟨l, D, A, V⟩ := k
  obtain ⟨p, e, R, s, m, args, below, meth, c⟩ := X
  obtain ⟨hx, hb, hml, hown, hts, hK, hr, hlk, hN, hR, hnm, hA⟩ := E
  intro H locs ls hP hD hS hl
  exact va_putF hx hb hts hin ty0 hty hnm' hown hK hP hD hS q0 he hc kf hk (hts _ hm) (fun _ h => h) hfin hnm hdecl hpd hna hfit hlen hd (fun H1 locs1 hP1 hD1 hS1 => nx H1 locs1 ls (hw ▸ hP1) (hw ▸ hD1) hS1 hl)

theorem c_vret (E : gEc k X cc own Ts nL R0) (hPo : Po w) (h1 : n = mc) (h2 : z = ms) (hd : decode cc pc = .ok (.return_, 1)) : Gc k X nL mc ms Po n z w lv [] pc := by
  obtain ⟨l, D, A, V⟩ := k
  obtain ⟨p, e, R, s, m, args, below, meth, c⟩ := X
  obtain ⟨hx, hb, hml, hown, hts, hK, hr, hlk, hN, hR, hnm, hA⟩ := E
  intro H locs ls hP hD hS hl
  subst h1
  subst h2
  exact W.vret hx hb hr (fun t ht hW => ⟨rfl, ⟨w, hPo, by rw [ht]; exact hP, hD⟩, hS.F ht⟩) hS.2.2 hd hlk

theorem c_sub (is : List Nat) {w' : va_W} (h1 : is.filterMap (fun i => w[i]?) = w') (h2 : va_nd is = true) (h3 : is.map (fun i => w[i]?) = w'.map some) (nx : Gc k X nL mc ms Po n z w' lv st pc) : Gc k X nL mc ms Po n z w lv st pc := by
  obtain ⟨l, D, A, V⟩ := k
  obtain ⟨p, e, R, s, m, args, below, meth, c⟩ := X
  intro H locs ls hP hD hS hl
  exact nx H locs ls (hP.sub is h1) (hD.sub is h2 h3) hS hl

theorem c_run {p : Program} {l : Launch} {e : Env} {R : Room} {s : State} {m : MethodId} {args : Array Value} {below : List Frame} {meth : Method} {c : Code} {D : va_G} {A A1 : Nat → Prop} {V : gV} {Po1 : va_W → Prop} {mcc msc : Nat} {H : Heap} {locs : List Loc} {ls : Array Slot} {st0 rest : List Value} {a : Array Value} {isC isR : List Nat} {wc wr : va_W}
    (hr : va_Run p l e R s m args below meth c H locs n z mcc msc (F0 m pc ls st0) rest (gQc D A1 Po1 a) A1) (hA1 : A1 = va_A wc H.size) (hP : va_P D vwCl w H) (hD : va_D A w) (hS : va_S A s.heap H locs) (hA : ∀ q, s.heap.size ≤ q → A q) (hl : lv_has ls nL lv)
    (hC : isC.map (fun i => w[i]?) = wc.map some) (hR : isR.map (fun i => w[i]?) = wr.map some) (hn : va_nd isR = true) (hdis : ∀ i ∈ isR, i ∉ isC)
    (nx : ∀ wf, Po1 wf → Gc (l, D, A, V) (p, e, R, s, m, args, below, meth, c) nL mc ms Po (n + mcc) (z + msc) (wr ++ wf) lv rest (pc + 3)) : W p l e R s m args below meth c H locs n z (MQ below (gQc D A Po) args s mc ms A) (F0 m pc ls st0) := by
  subst hA1
  have hFc := va_free hD hS hA isC hC
  intro T hT X
  obtain ⟨v, st₀, t, T', L, h0, X', hL, e1, e2, ⟨hv, ⟨wf, hPo, hP', hD'⟩, hz, hk⟩, st⟩ := hr T hT X
  cases hv
  rw [h0] at hz hk
  have hk' : ∀ q : Nat, q < H.size → ¬ va_A wc H.size q → T'.heap[q]? = H[q]? := fun q h1 h2 => by rw [e1]; exact hk q h1 h2
  have hz' : H.size ≤ T'.heap.size := by rw [e1]; exact hz
  have hj := va_join hP hD isC isR hC hR hn hdis hk' hFc (by rw [e1]; exact hP') hD'
  obtain ⟨t2, a1, b1⟩ := nx wf hPo T'.heap (locs ++ L) ls hj.1 hj.2
    ⟨Nat.le_trans hS.1 hz', fun q h1 h2 => by rw [hk' q (Nat.lt_of_lt_of_le h1 hS.1) (fun h => h2 (hFc q h))]; exact hS.2.1 q h1 h2, fun q hq => by
      rcases List.mem_append.mp hq with h | h
      · exact hS.2.2 q h
      · exact hFc _ (hL q h)⟩ hl T' rfl X'
  exact ⟨t2, st t2 a1, b1⟩

theorem c_callI (E : gEc k X cc own Ts nL R0) {y : MethodName} {ws ws' : List Cond} {rm : Room} {maxL ix nn mcc msc b : Nat} {bytes : ByteArray} {As rest : List Value} {Po1 : va_W → Prop} {wc wr : va_W} (isC isR : List Nat) (hM : ∀ sz, MI k.1 k.2.1 k.2.2.2 y ws rm (.ref b :: As) wc sz mcc msc Po1) (hG : GoodIn Ts ws) (hw : ws = Cond.code y bytes maxL none :: ws') (hrc : rm.cells = mcc) (hrs : rm.slots = msc) (hd0 : y.cls ≠ "java/lang/invoke/MethodHandle" ∧ y.cls ≠ "java/lang/invoke/VarHandle" ∧ (parseMethodDescriptor y.desc).map (fun d => d.parameters.length) = some nn) (hRR : rm.frames + 1 ≤ R0.frames ∧ 8 + (maxL + 11) + rm.locals ≤ R0.locals) (hn : As.length = nn) (hst : st = As.reverse ++ .ref b :: rest) (hW : (rest.map fun v => v.category).sum ≤ 8) (hC : isC.map (fun i => w[i]?) = wc.map some) (hCf : isC.filterMap (fun i => w[i]?) = wc) (hCn : va_nd isC = true) (hRf : isR.map (fun i => w[i]?) = wr.map some) (hRn : va_nd isR = true) (hdis : ∀ i ∈ isR, i ∉ isC) (hcell : n + mcc ≤ R0.cells ∧ z + msc ≤ R0.slots) (hd : decode cc pc = .ok (.invokespecial ix, 3)) (hini : Cond.initialized y.cls ∈ Ts) (hlk' : Cond.methodLink own ix y ∈ Ts) (hins : Cond.instanceMethod y ∈ Ts) (hyn : y.name = "<init>") (nx : ∀ wf, Po1 wf → Gc k X nL mc ms Po (n + mcc) (z + msc) (wr ++ wf) lv rest (pc + 3)) : Gc k X nL mc ms Po n z w lv st pc := by
  obtain ⟨l, D, A, V⟩ := k
  obtain ⟨p, e, R, s, m, args, below, meth, c⟩ := X
  obtain ⟨hx, hb, hml, hown, hts, hK, hr, hlk, hN, hR, hnm, hA⟩ := E
  intro H locs ls hP hD hS hl
  subst hst
  subst hR
  exact c_run (va_runI (As := As) (rest := rest) ⟨hx, hb, hml, hown, hts⟩ (hM H.size) (cwI nn hts hG hw hrc hrs (hts _ hini) (hts _ hlk') (hts _ hins) hyn hd0 hRR) ⟨gBlindI _ _ _ _ _, fun U hU hW => ⟨rfl, by rw [hU], by rw [hU]; exact hP.sub isC hCf, (hD.sub isC hCn hC).weaken (fun _ _ _ _ => trivial), va_K.moved hW.alike hK, hN.warm hW⟩⟩ rfl hn hl.1 rfl (lv_room hW) hd hcell) rfl hP hD hS hA hl hC hRf hRn hdis nx

theorem c_callIN (E : gEc k X cc own Ts nL R0) {y : MethodName} {ws ws' : List Cond} {rm : Room} {maxL ix nn mcc msc b : Nat} {bytes : ByteArray} {As rest : List Value} {Po1 : va_W → Prop} {wc wr : va_W} (isC isR : List Nat) (hM : ∀ sz, MI k.1 k.2.1 k.2.2.2 y ws rm (.ref b :: As) wc sz mcc msc Po1) (hG : GoodIn Ts ws) (hw : ws = Cond.code y bytes maxL none :: ws') (hrc : rm.cells = mcc) (hrs : rm.slots = msc) (hd0 : y.cls ≠ "java/lang/invoke/MethodHandle" ∧ y.cls ≠ "java/lang/invoke/VarHandle" ∧ (parseMethodDescriptor y.desc).map (fun d => d.parameters.length) = some nn) (hRR : rm.frames + 1 ≤ R0.frames ∧ 8 + (maxL + 11) + rm.locals ≤ R0.locals) (hn : As.length = nn) (hst : st = As.reverse ++ .ref b :: rest) (hW : (rest.map fun v => v.category).sum ≤ 8) (hC : isC.map (fun i => w[i]?) = wc.map some) (hCf : isC.filterMap (fun i => w[i]?) = wc) (hCn : va_nd isC = true) (hRf : isR.map (fun i => w[i]?) = wr.map some) (hRn : va_nd isR = true) (hdis : ∀ i ∈ isR, i ∉ isC) (hcell : n + mcc ≤ R0.cells ∧ z + msc ≤ R0.slots) (hd : decode cc pc = .ok (.invokespecial ix, 3)) (hq : (own, ix, y) ∈ gNest) (hini : Cond.initialized y.cls ∈ Ts) (hins : Cond.instanceMethod y ∈ Ts) (hyn : y.name = "<init>") (nx : ∀ wf, Po1 wf → Gc k X nL mc ms Po (n + mcc) (z + msc) (wr ++ wf) lv rest (pc + 3)) : Gc k X nL mc ms Po n z w lv st pc := by
  obtain ⟨l, D, A, V⟩ := k
  obtain ⟨p, e, R, s, m, args, below, meth, c⟩ := X
  obtain ⟨hx, hb, hml, hown, hts, hK, hr, hlk, hN, hR, hnm, hA⟩ := E
  intro H locs ls hP hD hS hl
  subst hst
  subst hR
  exact c_run (va_runIN (host := RX8) (As := As) (rest := rest) ⟨hx, hb, hml, hown, hts⟩ (hM H.size) ⟨va_cnB nn hts hG hw hrc hrs (hN _ hq) (hts _ hini) hd0 hRR, hyn, hts _ hins⟩ ⟨gBlindI _ _ _ _ _, fun U hU hW => ⟨rfl, by rw [hU], by rw [hU]; exact hP.sub isC hCf, (hD.sub isC hCn hC).weaken (fun _ _ _ _ => trivial), va_K.moved hW.alike hK, hN.warm hW⟩⟩ rfl hn hl.1 rfl (lv_room hW) hd hcell) rfl hP hD hS hA hl hC hRf hRn hdis nx

theorem c_fill (E : gEc k X cc own Ts nL R0) {ix q : Nat} {f : Nat → Int32} {v : Int32} {wr : va_W} (jc : Nat) (isR : List Nat) (he : w[jc]? = some (q, .inl (k.2.2.2.2.1, 36, .inl f))) (hRf : isR.map (fun i => w[i]?) = wr.map some) (hRn : va_nd isR = true) (hdis : ∀ i ∈ isR, i ∉ [jc]) (g : Nat → Int32) (hg : fJ7_fill_53178_0 (fun _ => f, fun _ => 0, fun _ _ => 0) v = some ((), (fun _ => g, fun _ => 0, fun _ _ => 0)) ∨ ∃ σ' : St, fJ7_fill_53178_0 (fun _ => f, fun _ => 0, fun _ _ => 0) v = some ((), σ') ∧ σ'.1 0 = g) (hG : GoodIn Ts (va_wsS own ix yJ7_fill_53178 wsJ7_fill_53178)) (hRR : 1 ≤ R0.frames ∧ 23 ≤ R0.locals) (hcs : n ≤ R0.cells ∧ z ≤ R0.slots) (hW : (st.map fun v => v.category).sum ≤ 8) (hd : decode cc pc = .ok (.invokestatic ix, 3)) (nx : Gc k X nL mc ms Po n z (wr ++ [(q, .inl (k.2.2.2.2.1, 36, .inl g))]) lv st (pc + 3)) : Gc k X nL mc ms Po n z w lv (.int v :: .ref q :: st) pc := by
  obtain ⟨l, D, A, V⟩ := k
  obtain ⟨p, e, R, s, m, args, below, meth, c⟩ := X
  obtain ⟨hx, hb, hml, hown, hts, hK, hr, hlk, hN, hR, hnm, hA⟩ := E
  intro H locs ls hP hD hS hl
  subst hR
  obtain ⟨σ', h1, h2⟩ : ∃ σ' : St, fJ7_fill_53178_0 (fun _ => f, fun _ => 0, fun _ _ => 0) v = some ((), σ') ∧ σ'.1 0 = g := by
    rcases hg with h | h
    · exact ⟨_, h, rfl⟩
    · exact h
  have hM := fJ7_fill_53178_0_c (l, D, va_A [(q, .inl (V.2.1, 36, .inl f))] H.size, (fun _ => q, V.2)) (fun _ => f, fun _ => 0, fun _ _ => 0) v _ h1
  have hC : [jc].map (fun i => w[i]?) = ([(q, .inl (V.2.1, 36, .inl f))] : va_W).map some := by
    show [w[jc]?] = _
    rw [he]
    rfl
  have hCf : [jc].filterMap (fun i => w[i]?) = ([(q, .inl (V.2.1, 36, .inl f))] : va_W) := by
    simp only [List.filterMap, he]
  have hr0 := va_runS (As := [.ref q, .int v]) (rest := st) (g := F0 m pc ls (.int v :: .ref q :: st)) (mc := 0) (ms := 0) (cells := n) (slots := z) (locs := locs) (e := e) (below := below) (meth := meth) ⟨hx, hb, hml, hown, hts⟩ hM (va_cwS 2 hts hG rfl rfl rfl (by decide +kernel) hRR) ⟨gBlind _ _ _, fun U hU hW => ⟨rfl, by rw [hU]; exact hP.sub [jc] hCf, (hD.sub [jc] rfl hC).self, va_K.moved hW.alike hK, hN.warm hW⟩⟩ rfl rfl hl.1 rfl (lv_room hW) hd
  · refine c_run (a := #[.ref q, .int v]) (V := V) (Po1 := fun wf => wf = [(q, .inl (V.2.1, 36, .inl g))]) (isC := [jc]) (wc := [(q, .inl (V.2.1, 36, .inl f))]) (mcc := 0) (msc := 0) (fun T hT X => ?_) rfl hP hD hS hA hl hC hRf hRn hdis (fun wf hwf => by subst hwf; exact nx)
    obtain ⟨v', st₀, t, T', L, h0, X', hL, e1, e2, ⟨hv, hP', hD', hF⟩, stp⟩ := hr0 hcs T hT X
    exact ⟨v', st₀, t, T', L, h0, X', hL, e1, e2, ⟨hv, ⟨_, by show [_] = [_]; rw [h2], hP', hD'⟩, hF⟩, stp⟩

end GCR
theorem MI_of {l : Launch} {D : va_G} {V : gV} {y : MethodName} {ws ws' : List Cond} {rm : Room} {av : List Value} {w0 : va_W} {sz mc ms : Nat} {Po : va_W → Prop} {cc : ByteArray} {maxL : Nat} {own : String} {lvs : List (Nat × Value)} (hy : plainName y.cls = true) (hw : ws = Cond.code y cc maxL none :: ws') (hown : y.cls = own) (hyn : y.name = "<init>") (hlen : (lg_sl av).length ≤ maxL) (hlv : lv_args 0 av = lvs) (body : ∀ X : gX, gEc (l, D, va_A w0 sz, V) X cc own ws maxL rm → Gc (l, D, va_A w0 sz, V) X maxL mc ms Po 0 0 w0 lvs [] 0) : MI l D V y ws rm av w0 sz mc ms Po := by
  refine Met.ofW (cc := cc) (maxL := maxL) (ret := none) hy hw ?_
  intro p e s m args below meth c s₁ B hml hv
  obtain ⟨rfl, hz, hP, hD, hK, hN⟩ := hv
  have hl := lv_entry av (n := maxL) hlen
  rw [lg_entry_eq]
  subst hlv
  subst hown
  exact body (p, e, (headSpec ws rm).room, s, m, av.toArray, below, meth, c) ⟨B.exec, B.bytes, hml, findClass_of_methodNamed B.named, atoms_spec (ws := ws) B.pre, hK, B.returns, B.notSynchronized, hN, rfl, by rw [← hyn]; exact (name_of_methodNamed B.named B.method).1, fun q h => Or.inr (by rw [← hz]; exact h)⟩ s.heap [] _ hP hD.self va_S.rf hl
