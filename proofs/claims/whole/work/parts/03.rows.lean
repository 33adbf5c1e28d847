/-! ===== my judgement: G k X nL o wf w lv st pc: at pc, with the world w, locals lv and stack st, the method ends with the answer o and the world wf ===== -/
abbrev gV : Type := (Nat → Nat) × ClassId × ClassId
abbrev gK : Type := Launch × va_G × (Nat → Prop) × gV
abbrev gX : Type := Program × Env × Room × State × MethodId × Array Value × List Frame × Method × Code
abbrev St : Type := (Nat → Nat → Int32) × (Nat → Int32) × (Nat → Nat → Int64)
def uA (σ : St) (k i : Nat) (v : Int32) : St := (fun j => bif Nat.beq j k then upd (σ.1 k) i v else σ.1 j, σ.2.1, σ.2.2)
def uI (σ : St) (k : Nat) (v : Int32) : St := (σ.1, fun j => bif Nat.beq j k then v else σ.2.1 j, σ.2.2)
def uL (σ : St) (k i : Nat) (v : Int64) : St := (σ.1, σ.2.1, fun j => bif Nat.beq j k then vp_updL (σ.2.2 k) i v else σ.2.2 j)
def gF : Nat := 20000
def ib (i : Int32) (n : Nat) : Bool := decide (0 ≤ i.toInt) && decide (i.toInt < n)
theorem ib_in {i : Int32} {n : Nat} (h : ib i n = true) : vp_in i n := by
  simp only [ib, Bool.and_eq_true, decide_eq_true_eq] at h
  exact vp_in_iff.mpr h
theorem gd {α : Type} {c : Prop} [Decidable c] {x : Option α} {r : α} (h : (if c then x else none) = some r) : c ∧ x = some r := by
  by_cases hc : c
  · rw [if_pos hc] at h; exact ⟨hc, h⟩
  · rw [if_neg hc] at h; cases h
theorem gp {α : Type} {c : Prop} [Decidable c] {x y : Option α} {r : α} (h : (if c then x else y) = some r) (hc : c) : x = some r := by
  rw [if_pos hc] at h; exact h
theorem gn {α : Type} {c : Prop} [Decidable c] {x y : Option α} {r : α} (h : (if c then x else y) = some r) (hc : ¬ c) : y = some r := by
  rw [if_neg hc] at h; exact h
theorem gb {α β : Type} {x : Option α} {f : α → Option β} {r : β} (h : Option.bind x f = some r) : ∃ q, x = some q ∧ f q = some r := by
  cases x with
  | none => cases h
  | some q => exact ⟨q, rfl, h⟩
def gNest : List (String × Nat × MethodName) := [(RX8, 9, yX0_init), (RX8, 18, yX4_init), (RX8, 32, yX6_init), (RX8, 39, yX5_init), (RX1, 17, yX7_init), (RX3, 11, yX7_init), (RX2, 68, yX8_hasBit), (RX3, 70, yX8_hasBit)]
def gN (U : State) : Prop := ∀ q ∈ gNest, va_Nw (.methodLinkNest q.1 q.2.1 q.2.2 RX8) U
theorem gN.warm {s U : State} (hW : s.WarmedH U.vm) (h : gN s) : gN U := fun q hq => va_Nw.warmM hW (h q hq)
theorem gN.call {U : State} {g : JFrame} {mk : MethodId} {a : Array Value} (h : gN U) : gN (U.calling g mk a) := fun q hq => va_Nw.same (u := U) rfl rfl (h q hq)
def gT (V : gV) : List (ClassId × FieldType) := [(V.2.1, .int), (V.2.2, .long)]
def gE (k : gK) (X : gX) (cc : ByteArray) (own : String) (Ts : List Cond) (nL : Nat) (ret : Option FieldType) (R0 : Room) : Prop := match k, X with
  | (_, D, _, V), (p, _, R, s, m, args, _, meth, c) => p.tables.exec = Jvm.exec ∧ c.code = cc ∧ c.maxLocals = nL ∧ s.vm.findClass own = some m.cls ∧ (∀ w ∈ Ts, w.before args s = true) ∧ va_K D vwCl (gT V) s ∧ meth.sig.returnType = ret ∧ meth.locks = false ∧ gN s ∧ R = R0
def gQ (D : va_G) (A : Nat → Prop) (o : Option Value) (wf : va_W) : Array Value → State → Outcome → State → Prop := fun _ st oc t => oc = .returned o ∧ va_P D vwCl wf t.heap ∧ va_D A wf ∧ va_F A st t
def G (k : gK) (X : gX) (nL : Nat) (o : Option Value) (wf w : va_W) (lv : List (Nat × Value)) (st : List Value) (pc : Nat) : Prop := match k, X with
  | (l, D, A, _), (p, e, R, s, m, args, below, meth, c) => ∀ (H : Heap) (locs : List Loc) (ls : Array Slot), va_P D vwCl w H → va_D A w → va_S A s.heap H locs → lv_has ls nL lv → W p l e R s m args below meth c H locs 0 0 (MQ below (gQ D A o wf) args s 0 0 A) (F0 m pc ls st)
def gPre (k : gK) (w : va_W) (U : State) : Prop := match k with
  | (_, D, A, V) => va_P D vwCl w U.heap ∧ va_D A w ∧ va_K D vwCl (gT V) U ∧ gN U
def MC (k : gK) (y : MethodName) (ws : List Cond) (rm : Room) (av : List Value) (w : va_W) (o : Option Value) (w' : va_W) : Prop := match k with
  | (l, D, A, V) => Met l y ws rm (va_Pc av (gPre (l, D, A, V) w)) (gQ D A o w') 0 0 A
theorem gBlind (k : gK) (w : va_W) (av : List Value) : FrameBlind (va_Pc av (gPre k w)) := by
  obtain ⟨l, D, A, V⟩ := k
  intro a U g mk h
  obtain ⟨h0, hP, hD, hK, hN⟩ := h
  exact ⟨h0, hP, hD, va_K.moved (u := U) (U := U.calling g mk a) (Vm.Alike.refl U.vm) hK, hN.call⟩
section GR
variable {k : gK} {X : gX} {cc : ByteArray} {own : String} {Ts : List Cond} {nL : Nat} {ret : Option FieldType} {R0 : Room} {o : Option Value} {wf w : va_W} {lv : List (Nat × Value)} {st : List Value} {pc : Nat}

theorem g_iconst (E : gE k X cc own Ts nL ret R0) {n : Int} {v : Int32} (hd : decode cc pc = .ok (.iconst n, 1)) (hv : Int32.ofInt n = v) (nx : G k X nL o wf w lv (.int v :: st) (pc + 1)) : G k X nL o wf w lv st pc := by
  obtain ⟨l, D, A, V⟩ := k
  obtain ⟨p, e, R, s, m, args, below, meth, c⟩ := X
  obtain ⟨hx, hb, hml, hown, hts, hK, hr, hlk, hN, hR⟩ := E
  intro H locs ls hP hD hS hl
  exact lv_iconst hx hb hd hv (nx H locs ls hP hD hS hl)

theorem g_bipush (E : gE k X cc own Ts nL ret R0) {n : Int} {v : Int32} (hd : decode cc pc = .ok (.bipush n, 2)) (hv : (Int8.ofInt n).toInt32 = v) (nx : G k X nL o wf w lv (.int v :: st) (pc + 2)) : G k X nL o wf w lv st pc := by
  obtain ⟨l, D, A, V⟩ := k
  obtain ⟨p, e, R, s, m, args, below, meth, c⟩ := X
  obtain ⟨hx, hb, hml, hown, hts, hK, hr, hlk, hN, hR⟩ := E
  intro H locs ls hP hD hS hl
  exact lv_bipush hx hb hd hv (nx H locs ls hP hD hS hl)

theorem g_sipush (E : gE k X cc own Ts nL ret R0) {n : Int} {v : Int32} (hd : decode cc pc = .ok (.sipush n, 3)) (hv : (Int16.ofInt n).toInt32 = v) (nx : G k X nL o wf w lv (.int v :: st) (pc + 3)) : G k X nL o wf w lv st pc := by
  obtain ⟨l, D, A, V⟩ := k
  obtain ⟨p, e, R, s, m, args, below, meth, c⟩ := X
  obtain ⟨hx, hb, hml, hown, hts, hK, hr, hlk, hN, hR⟩ := E
  intro H locs ls hP hD hS hl
  exact lv_sipush hx hb hd hv (nx H locs ls hP hD hS hl)

theorem g_lconst (E : gE k X cc own Ts nL ret R0) {n : Fin 2} {v : Int64} (hd : decode cc pc = .ok (.lconst n, 1)) (hv : Int64.ofNat (n : Nat) = v) (nx : G k X nL o wf w lv (.long v :: st) (pc + 1)) : G k X nL o wf w lv st pc := by
  obtain ⟨l, D, A, V⟩ := k
  obtain ⟨p, e, R, s, m, args, below, meth, c⟩ := X
  obtain ⟨hx, hb, hml, hown, hts, hK, hr, hlk, hN, hR⟩ := E
  intro H locs ls hP hD hS hl
  exact lv_lconst hx hb hd hv (nx H locs ls hP hD hS hl)

theorem g_ldc (E : gE k X cc own Ts nL ret R0) {ix : Nat} {v : Int32} (hm : Cond.constant own ix v ∈ Ts) (hd : decode cc pc = .ok (.ldc ix, 2)) (nx : G k X nL o wf w lv (.int v :: st) (pc + 2)) : G k X nL o wf w lv st pc := by
  obtain ⟨l, D, A, V⟩ := k
  obtain ⟨p, e, R, s, m, args, below, meth, c⟩ := X
  obtain ⟨hx, hb, hml, hown, hts, hK, hr, hlk, hN, hR⟩ := E
  intro H locs ls hP hD hS hl
  exact lv_ldc hx hb hown (hts _ hm) hd (nx H locs ls hP hD hS hl)

theorem g_ldcw (E : gE k X cc own Ts nL ret R0) {ix : Nat} {v : Int32} (hm : Cond.constant own ix v ∈ Ts) (hd : decode cc pc = .ok (.ldc_w ix, 3)) (nx : G k X nL o wf w lv (.int v :: st) (pc + 3)) : G k X nL o wf w lv st pc := by
  obtain ⟨l, D, A, V⟩ := k
  obtain ⟨p, e, R, s, m, args, below, meth, c⟩ := X
  obtain ⟨hx, hb, hml, hown, hts, hK, hr, hlk, hN, hR⟩ := E
  intro H locs ls hP hD hS hl
  exact lv_ldcw hx hb hown (hts _ hm) hd (nx H locs ls hP hD hS hl)

theorem g_ldc2 (E : gE k X cc own Ts nL ret R0) {ix : Nat} {v : Int64} (hm : Cond.constantLong own ix v ∈ Ts) (hd : decode cc pc = .ok (.ldc2_w ix, 3)) (nx : G k X nL o wf w lv (.long v :: st) (pc + 3)) : G k X nL o wf w lv st pc := by
  obtain ⟨l, D, A, V⟩ := k
  obtain ⟨p, e, R, s, m, args, below, meth, c⟩ := X
  obtain ⟨hx, hb, hml, hown, hts, hK, hr, hlk, hN, hR⟩ := E
  intro H locs ls hP hD hS hl
  exact lv_ldc2 hx hb hown (hts _ hm) hd (nx H locs ls hP hD hS hl)

theorem g_iload_n (E : gE k X cc own Ts nL ret R0) {f : Fin 4} {i : Nat} {x : Int32} (j : Nat) (hd : decode cc pc = .ok (.iload_n f, 1)) (hi : (f : Nat) = i) (hj : lv[j]? = some (i, .int x)) (nx : G k X nL o wf w lv (.int x :: st) (pc + 1)) : G k X nL o wf w lv st pc := by
  obtain ⟨l, D, A, V⟩ := k
  obtain ⟨p, e, R, s, m, args, below, meth, c⟩ := X
  obtain ⟨hx, hb, hml, hown, hts, hK, hr, hlk, hN, hR⟩ := E
  intro H locs ls hP hD hS hl
  exact lv_iload_n hx hb hd hi (lv_at hl j hj) (nx H locs ls hP hD hS hl)

theorem g_iload (E : gE k X cc own Ts nL ret R0) {i : Nat} {x : Int32} (j : Nat) (hd : decode cc pc = .ok (.iload i, 2)) (hj : lv[j]? = some (i, .int x)) (nx : G k X nL o wf w lv (.int x :: st) (pc + 2)) : G k X nL o wf w lv st pc := by
  obtain ⟨l, D, A, V⟩ := k
  obtain ⟨p, e, R, s, m, args, below, meth, c⟩ := X
  obtain ⟨hx, hb, hml, hown, hts, hK, hr, hlk, hN, hR⟩ := E
  intro H locs ls hP hD hS hl
  exact lv_iload hx hb hd (lv_at hl j hj) (nx H locs ls hP hD hS hl)

theorem g_lload_n (E : gE k X cc own Ts nL ret R0) {f : Fin 4} {i : Nat} {x : Int64} (j : Nat) (hd : decode cc pc = .ok (.lload_n f, 1)) (hi : (f : Nat) = i) (hj : lv[j]? = some (i, .long x)) (nx : G k X nL o wf w lv (.long x :: st) (pc + 1)) : G k X nL o wf w lv st pc := by
  obtain ⟨l, D, A, V⟩ := k
  obtain ⟨p, e, R, s, m, args, below, meth, c⟩ := X
  obtain ⟨hx, hb, hml, hown, hts, hK, hr, hlk, hN, hR⟩ := E
  intro H locs ls hP hD hS hl
  exact lv_lload_n hx hb hd hi (lv_at hl j hj) (nx H locs ls hP hD hS hl)

theorem g_lload (E : gE k X cc own Ts nL ret R0) {i : Nat} {x : Int64} (j : Nat) (hd : decode cc pc = .ok (.lload i, 2)) (hj : lv[j]? = some (i, .long x)) (nx : G k X nL o wf w lv (.long x :: st) (pc + 2)) : G k X nL o wf w lv st pc := by
  obtain ⟨l, D, A, V⟩ := k
  obtain ⟨p, e, R, s, m, args, below, meth, c⟩ := X
  obtain ⟨hx, hb, hml, hown, hts, hK, hr, hlk, hN, hR⟩ := E
  intro H locs ls hP hD hS hl
  exact lv_lload hx hb hd (lv_at hl j hj) (nx H locs ls hP hD hS hl)

theorem g_aload_n (E : gE k X cc own Ts nL ret R0) {f : Fin 4} {i : Nat} {x : Nat} (j : Nat) (hd : decode cc pc = .ok (.aload_n f, 1)) (hi : (f : Nat) = i) (hj : lv[j]? = some (i, .ref x)) (nx : G k X nL o wf w lv (.ref x :: st) (pc + 1)) : G k X nL o wf w lv st pc := by
  obtain ⟨l, D, A, V⟩ := k
  obtain ⟨p, e, R, s, m, args, below, meth, c⟩ := X
  obtain ⟨hx, hb, hml, hown, hts, hK, hr, hlk, hN, hR⟩ := E
  intro H locs ls hP hD hS hl
  exact lv_aload_n hx hb hd hi (lv_at hl j hj) (nx H locs ls hP hD hS hl)

theorem g_aload (E : gE k X cc own Ts nL ret R0) {i : Nat} {x : Nat} (j : Nat) (hd : decode cc pc = .ok (.aload i, 2)) (hj : lv[j]? = some (i, .ref x)) (nx : G k X nL o wf w lv (.ref x :: st) (pc + 2)) : G k X nL o wf w lv st pc := by
  obtain ⟨l, D, A, V⟩ := k
  obtain ⟨p, e, R, s, m, args, below, meth, c⟩ := X
  obtain ⟨hx, hb, hml, hown, hts, hK, hr, hlk, hN, hR⟩ := E
  intro H locs ls hP hD hS hl
  exact lv_aload hx hb hd (lv_at hl j hj) (nx H locs ls hP hD hS hl)

theorem g_istore_n (E : gE k X cc own Ts nL ret R0) {f : Fin 4} {i : Nat} {x : Int32} (lv' : List (Nat × Value)) (hd : decode cc pc = .ok (.istore_n f, 1)) (hi : (f : Nat) = i) (hn : i < nL) (hl' : (i, Value.int x) :: lv.filter (fun q => !(q.1 == i) && !(q.1 + 1 == i && q.2.category == 2)) = lv') (nx : G k X nL o wf w lv' st (pc + 1)) : G k X nL o wf w lv (.int x :: st) pc := by
  obtain ⟨l, D, A, V⟩ := k
  obtain ⟨p, e, R, s, m, args, below, meth, c⟩ := X
  obtain ⟨hx, hb, hml, hown, hts, hK, hr, hlk, hN, hR⟩ := E
  intro H locs ls hP hD hS hl
  exact lv_istore_n hx hb hd hi hl hn hl' (fun ls hl => nx H locs ls hP hD hS hl)

theorem g_istore (E : gE k X cc own Ts nL ret R0) {i : Nat} {x : Int32} (lv' : List (Nat × Value)) (hd : decode cc pc = .ok (.istore i, 2)) (hn : i < nL) (hl' : (i, Value.int x) :: lv.filter (fun q => !(q.1 == i) && !(q.1 + 1 == i && q.2.category == 2)) = lv') (nx : G k X nL o wf w lv' st (pc + 2)) : G k X nL o wf w lv (.int x :: st) pc := by
  obtain ⟨l, D, A, V⟩ := k
  obtain ⟨p, e, R, s, m, args, below, meth, c⟩ := X
  obtain ⟨hx, hb, hml, hown, hts, hK, hr, hlk, hN, hR⟩ := E
  intro H locs ls hP hD hS hl
  exact lv_istore hx hb hd hl hn hl' (fun ls hl => nx H locs ls hP hD hS hl)

theorem g_lstore_n (E : gE k X cc own Ts nL ret R0) {f : Fin 4} {i : Nat} {x : Int64} (lv' : List (Nat × Value)) (hd : decode cc pc = .ok (.lstore_n f, 1)) (hi : (f : Nat) = i) (hn : i + 1 < nL) (hl' : (i, Value.long x) :: lv.filter (fun q => !(q.1 == i) && (!(q.1 == i + 1) && !(q.1 + 1 == i && q.2.category == 2))) = lv') (nx : G k X nL o wf w lv' st (pc + 1)) : G k X nL o wf w lv (.long x :: st) pc := by
  obtain ⟨l, D, A, V⟩ := k
  obtain ⟨p, e, R, s, m, args, below, meth, c⟩ := X
  obtain ⟨hx, hb, hml, hown, hts, hK, hr, hlk, hN, hR⟩ := E
  intro H locs ls hP hD hS hl
  exact lv_lstore_n hx hb hd hi hl hn hl' (fun ls hl => nx H locs ls hP hD hS hl)

theorem g_lstore (E : gE k X cc own Ts nL ret R0) {i : Nat} {x : Int64} (lv' : List (Nat × Value)) (hd : decode cc pc = .ok (.lstore i, 2)) (hn : i + 1 < nL) (hl' : (i, Value.long x) :: lv.filter (fun q => !(q.1 == i) && (!(q.1 == i + 1) && !(q.1 + 1 == i && q.2.category == 2))) = lv') (nx : G k X nL o wf w lv' st (pc + 2)) : G k X nL o wf w lv (.long x :: st) pc := by
  obtain ⟨l, D, A, V⟩ := k
  obtain ⟨p, e, R, s, m, args, below, meth, c⟩ := X
  obtain ⟨hx, hb, hml, hown, hts, hK, hr, hlk, hN, hR⟩ := E
  intro H locs ls hP hD hS hl
  exact lv_lstore hx hb hd hl hn hl' (fun ls hl => nx H locs ls hP hD hS hl)

theorem g_astore_n (E : gE k X cc own Ts nL ret R0) {f : Fin 4} {i : Nat} {x : Nat} (lv' : List (Nat × Value)) (hd : decode cc pc = .ok (.astore_n f, 1)) (hi : (f : Nat) = i) (hn : i < nL) (hl' : (i, Value.ref x) :: lv.filter (fun q => !(q.1 == i) && !(q.1 + 1 == i && q.2.category == 2)) = lv') (nx : G k X nL o wf w lv' st (pc + 1)) : G k X nL o wf w lv (.ref x :: st) pc := by
  obtain ⟨l, D, A, V⟩ := k
  obtain ⟨p, e, R, s, m, args, below, meth, c⟩ := X
  obtain ⟨hx, hb, hml, hown, hts, hK, hr, hlk, hN, hR⟩ := E
  intro H locs ls hP hD hS hl
  exact lv_astore_n hx hb hd hi hl hn hl' (fun ls hl => nx H locs ls hP hD hS hl)

theorem g_astore (E : gE k X cc own Ts nL ret R0) {i : Nat} {x : Nat} (lv' : List (Nat × Value)) (hd : decode cc pc = .ok (.astore i, 2)) (hn : i < nL) (hl' : (i, Value.ref x) :: lv.filter (fun q => !(q.1 == i) && !(q.1 + 1 == i && q.2.category == 2)) = lv') (nx : G k X nL o wf w lv' st (pc + 2)) : G k X nL o wf w lv (.ref x :: st) pc := by
  obtain ⟨l, D, A, V⟩ := k
  obtain ⟨p, e, R, s, m, args, below, meth, c⟩ := X
  obtain ⟨hx, hb, hml, hown, hts, hK, hr, hlk, hN, hR⟩ := E
  intro H locs ls hP hD hS hl
  exact lv_astore hx hb hd hl hn hl' (fun ls hl => nx H locs ls hP hD hS hl)

theorem g_iinc (E : gE k X cc own Ts nL ret R0) {i : Nat} {n : Int} {x : Int32} (j : Nat) (lv' : List (Nat × Value)) (v : Int32) (hd : decode cc pc = .ok (.iinc i n, 3)) (hj : lv[j]? = some (i, .int x)) (hv : x + Int32.ofInt n = v) (hn : i < nL) (hl' : (i, Value.int v) :: lv.filter (fun q => !(q.1 == i) && !(q.1 + 1 == i && q.2.category == 2)) = lv') (nx : G k X nL o wf w lv' st (pc + 3)) : G k X nL o wf w lv st pc := by
  obtain ⟨l, D, A, V⟩ := k
  obtain ⟨p, e, R, s, m, args, below, meth, c⟩ := X
  obtain ⟨hx, hb, hml, hown, hts, hK, hr, hlk, hN, hR⟩ := E
  intro H locs ls hP hD hS hl
  exact lv_iinc hx hb hd hl hj hv hn hl' (fun ls hl => nx H locs ls hP hD hS hl)

theorem g_iadd (E : gE k X cc own Ts nL ret R0) {x y : Int32} (hd : decode cc pc = .ok (.iadd, 1)) (nx : G k X nL o wf w lv (.int (x + y) :: st) (pc + 1)) : G k X nL o wf w lv (.int y :: .int x :: st) pc := by
  obtain ⟨l, D, A, V⟩ := k
  obtain ⟨p, e, R, s, m, args, below, meth, c⟩ := X
  obtain ⟨hx, hb, hml, hown, hts, hK, hr, hlk, hN, hR⟩ := E
  intro H locs ls hP hD hS hl
  exact lv_iadd hx hb hd (nx H locs ls hP hD hS hl)

theorem g_isub (E : gE k X cc own Ts nL ret R0) {x y : Int32} (hd : decode cc pc = .ok (.isub, 1)) (nx : G k X nL o wf w lv (.int (x - y) :: st) (pc + 1)) : G k X nL o wf w lv (.int y :: .int x :: st) pc := by
  obtain ⟨l, D, A, V⟩ := k
  obtain ⟨p, e, R, s, m, args, below, meth, c⟩ := X
  obtain ⟨hx, hb, hml, hown, hts, hK, hr, hlk, hN, hR⟩ := E
  intro H locs ls hP hD hS hl
  exact lv_isub hx hb hd (nx H locs ls hP hD hS hl)

theorem g_imul (E : gE k X cc own Ts nL ret R0) {x y : Int32} (hd : decode cc pc = .ok (.imul, 1)) (nx : G k X nL o wf w lv (.int (x * y) :: st) (pc + 1)) : G k X nL o wf w lv (.int y :: .int x :: st) pc := by
  obtain ⟨l, D, A, V⟩ := k
  obtain ⟨p, e, R, s, m, args, below, meth, c⟩ := X
  obtain ⟨hx, hb, hml, hown, hts, hK, hr, hlk, hN, hR⟩ := E
  intro H locs ls hP hD hS hl
  exact lv_imul hx hb hd (nx H locs ls hP hD hS hl)

theorem g_iand (E : gE k X cc own Ts nL ret R0) {x y : Int32} (hd : decode cc pc = .ok (.iand, 1)) (nx : G k X nL o wf w lv (.int (x &&& y) :: st) (pc + 1)) : G k X nL o wf w lv (.int y :: .int x :: st) pc := by
  obtain ⟨l, D, A, V⟩ := k
  obtain ⟨p, e, R, s, m, args, below, meth, c⟩ := X
  obtain ⟨hx, hb, hml, hown, hts, hK, hr, hlk, hN, hR⟩ := E
  intro H locs ls hP hD hS hl
  exact lv_iand hx hb hd (nx H locs ls hP hD hS hl)

theorem g_ior (E : gE k X cc own Ts nL ret R0) {x y : Int32} (hd : decode cc pc = .ok (.ior, 1)) (nx : G k X nL o wf w lv (.int (x ||| y) :: st) (pc + 1)) : G k X nL o wf w lv (.int y :: .int x :: st) pc := by
  obtain ⟨l, D, A, V⟩ := k
  obtain ⟨p, e, R, s, m, args, below, meth, c⟩ := X
  obtain ⟨hx, hb, hml, hown, hts, hK, hr, hlk, hN, hR⟩ := E
  intro H locs ls hP hD hS hl
  exact lv_ior hx hb hd (nx H locs ls hP hD hS hl)

theorem g_ixor (E : gE k X cc own Ts nL ret R0) {x y : Int32} (hd : decode cc pc = .ok (.ixor, 1)) (nx : G k X nL o wf w lv (.int (x ^^^ y) :: st) (pc + 1)) : G k X nL o wf w lv (.int y :: .int x :: st) pc := by
  obtain ⟨l, D, A, V⟩ := k
  obtain ⟨p, e, R, s, m, args, below, meth, c⟩ := X
  obtain ⟨hx, hb, hml, hown, hts, hK, hr, hlk, hN, hR⟩ := E
  intro H locs ls hP hD hS hl
  exact lv_ixor hx hb hd (nx H locs ls hP hD hS hl)

theorem g_ishl (E : gE k X cc own Ts nL ret R0) {x y : Int32} (hd : decode cc pc = .ok (.ishl, 1)) (nx : G k X nL o wf w lv (.int (x <<< (y &&& 31)) :: st) (pc + 1)) : G k X nL o wf w lv (.int y :: .int x :: st) pc := by
  obtain ⟨l, D, A, V⟩ := k
  obtain ⟨p, e, R, s, m, args, below, meth, c⟩ := X
  obtain ⟨hx, hb, hml, hown, hts, hK, hr, hlk, hN, hR⟩ := E
  intro H locs ls hP hD hS hl
  exact lv_ishl hx hb hd (nx H locs ls hP hD hS hl)

theorem g_ishr (E : gE k X cc own Ts nL ret R0) {x y : Int32} (hd : decode cc pc = .ok (.ishr, 1)) (nx : G k X nL o wf w lv (.int (x >>> (y &&& 31)) :: st) (pc + 1)) : G k X nL o wf w lv (.int y :: .int x :: st) pc := by
  obtain ⟨l, D, A, V⟩ := k
  obtain ⟨p, e, R, s, m, args, below, meth, c⟩ := X
  obtain ⟨hx, hb, hml, hown, hts, hK, hr, hlk, hN, hR⟩ := E
  intro H locs ls hP hD hS hl
  exact lv_ishr hx hb hd (nx H locs ls hP hD hS hl)

theorem g_iushr (E : gE k X cc own Ts nL ret R0) {x y : Int32} (hd : decode cc pc = .ok (.iushr, 1)) (nx : G k X nL o wf w lv (.int ((x.toUInt32 >>> (y.toUInt32 &&& Int32.toUInt32 31)).toInt32) :: st) (pc + 1)) : G k X nL o wf w lv (.int y :: .int x :: st) pc := by
  obtain ⟨l, D, A, V⟩ := k
  obtain ⟨p, e, R, s, m, args, below, meth, c⟩ := X
  obtain ⟨hx, hb, hml, hown, hts, hK, hr, hlk, hN, hR⟩ := E
  intro H locs ls hP hD hS hl
  exact lv_iushr hx hb hd rfl (nx H locs ls hP hD hS hl)

theorem g_idiv (E : gE k X cc own Ts nL ret R0) {x y : Int32} (hne : ¬ y = 0) (hd : decode cc pc = .ok (.idiv, 1)) (nx : G k X nL o wf w lv (.int (x / y) :: st) (pc + 1)) : G k X nL o wf w lv (.int y :: .int x :: st) pc := by
  obtain ⟨l, D, A, V⟩ := k
  obtain ⟨p, e, R, s, m, args, below, meth, c⟩ := X
  obtain ⟨hx, hb, hml, hown, hts, hK, hr, hlk, hN, hR⟩ := E
  intro H locs ls hP hD hS hl
  exact lv_idiv hx hb hd hne (nx H locs ls hP hD hS hl)

theorem g_irem (E : gE k X cc own Ts nL ret R0) {x y : Int32} (hne : ¬ y = 0) (hd : decode cc pc = .ok (.irem, 1)) (nx : G k X nL o wf w lv (.int (x - x / y * y) :: st) (pc + 1)) : G k X nL o wf w lv (.int y :: .int x :: st) pc := by
  obtain ⟨l, D, A, V⟩ := k
  obtain ⟨p, e, R, s, m, args, below, meth, c⟩ := X
  obtain ⟨hx, hb, hml, hown, hts, hK, hr, hlk, hN, hR⟩ := E
  intro H locs ls hP hD hS hl
  exact lv_irem hx hb hd hne (nx H locs ls hP hD hS hl)

theorem g_ladd (E : gE k X cc own Ts nL ret R0) {x y : Int64} (hd : decode cc pc = .ok (.ladd, 1)) (nx : G k X nL o wf w lv (.long (x + y) :: st) (pc + 1)) : G k X nL o wf w lv (.long y :: .long x :: st) pc := by
  obtain ⟨l, D, A, V⟩ := k
  obtain ⟨p, e, R, s, m, args, below, meth, c⟩ := X
  obtain ⟨hx, hb, hml, hown, hts, hK, hr, hlk, hN, hR⟩ := E
  intro H locs ls hP hD hS hl
  exact lv_ladd hx hb hd (nx H locs ls hP hD hS hl)

theorem g_lsub (E : gE k X cc own Ts nL ret R0) {x y : Int64} (hd : decode cc pc = .ok (.lsub, 1)) (nx : G k X nL o wf w lv (.long (x - y) :: st) (pc + 1)) : G k X nL o wf w lv (.long y :: .long x :: st) pc := by
  obtain ⟨l, D, A, V⟩ := k
  obtain ⟨p, e, R, s, m, args, below, meth, c⟩ := X
  obtain ⟨hx, hb, hml, hown, hts, hK, hr, hlk, hN, hR⟩ := E
  intro H locs ls hP hD hS hl
  exact lv_lsub hx hb hd (nx H locs ls hP hD hS hl)

theorem g_lmul (E : gE k X cc own Ts nL ret R0) {x y : Int64} (hd : decode cc pc = .ok (.lmul, 1)) (nx : G k X nL o wf w lv (.long (x * y) :: st) (pc + 1)) : G k X nL o wf w lv (.long y :: .long x :: st) pc := by
  obtain ⟨l, D, A, V⟩ := k
  obtain ⟨p, e, R, s, m, args, below, meth, c⟩ := X
  obtain ⟨hx, hb, hml, hown, hts, hK, hr, hlk, hN, hR⟩ := E
  intro H locs ls hP hD hS hl
  exact lv_lmul hx hb hd (nx H locs ls hP hD hS hl)

theorem g_ldiv (E : gE k X cc own Ts nL ret R0) {x y : Int64} (hne : ¬ y = 0) (hd : decode cc pc = .ok (.ldiv, 1)) (nx : G k X nL o wf w lv (.long (x / y) :: st) (pc + 1)) : G k X nL o wf w lv (.long y :: .long x :: st) pc := by
  obtain ⟨l, D, A, V⟩ := k
  obtain ⟨p, e, R, s, m, args, below, meth, c⟩ := X
  obtain ⟨hx, hb, hml, hown, hts, hK, hr, hlk, hN, hR⟩ := E
  intro H locs ls hP hD hS hl
  exact lv_ldiv hx hb hd hne (nx H locs ls hP hD hS hl)

theorem g_lrem (E : gE k X cc own Ts nL ret R0) {x y : Int64} (hne : ¬ y = 0) (hd : decode cc pc = .ok (.lrem, 1)) (nx : G k X nL o wf w lv (.long (x - x / y * y) :: st) (pc + 1)) : G k X nL o wf w lv (.long y :: .long x :: st) pc := by
  obtain ⟨l, D, A, V⟩ := k
  obtain ⟨p, e, R, s, m, args, below, meth, c⟩ := X
  obtain ⟨hx, hb, hml, hown, hts, hK, hr, hlk, hN, hR⟩ := E
  intro H locs ls hP hD hS hl
  exact lv_lrem hx hb hd hne (nx H locs ls hP hD hS hl)

theorem g_ineg (E : gE k X cc own Ts nL ret R0) {x : Int32} (hd : decode cc pc = .ok (.ineg, 1)) (nx : G k X nL o wf w lv (.int (-x) :: st) (pc + 1)) : G k X nL o wf w lv (.int x :: st) pc := by
  obtain ⟨l, D, A, V⟩ := k
  obtain ⟨p, e, R, s, m, args, below, meth, c⟩ := X
  obtain ⟨hx, hb, hml, hown, hts, hK, hr, hlk, hN, hR⟩ := E
  intro H locs ls hP hD hS hl
  exact lv_ineg hx hb hd (nx H locs ls hP hD hS hl)

theorem g_lneg (E : gE k X cc own Ts nL ret R0) {x : Int64} (hd : decode cc pc = .ok (.lneg, 1)) (nx : G k X nL o wf w lv (.long (-x) :: st) (pc + 1)) : G k X nL o wf w lv (.long x :: st) pc := by
  obtain ⟨l, D, A, V⟩ := k
  obtain ⟨p, e, R, s, m, args, below, meth, c⟩ := X
  obtain ⟨hx, hb, hml, hown, hts, hK, hr, hlk, hN, hR⟩ := E
  intro H locs ls hP hD hS hl
  exact lv_lneg hx hb hd (nx H locs ls hP hD hS hl)

theorem g_i2l (E : gE k X cc own Ts nL ret R0) {x : Int32} (hd : decode cc pc = .ok (.i2l, 1)) (nx : G k X nL o wf w lv (.long x.toInt64 :: st) (pc + 1)) : G k X nL o wf w lv (.int x :: st) pc := by
  obtain ⟨l, D, A, V⟩ := k
  obtain ⟨p, e, R, s, m, args, below, meth, c⟩ := X
  obtain ⟨hx, hb, hml, hown, hts, hK, hr, hlk, hN, hR⟩ := E
  intro H locs ls hP hD hS hl
  exact lv_i2l hx hb hd rfl (nx H locs ls hP hD hS hl)

theorem g_l2i (E : gE k X cc own Ts nL ret R0) {x : Int64} (hd : decode cc pc = .ok (.l2i, 1)) (nx : G k X nL o wf w lv (.int x.toInt32 :: st) (pc + 1)) : G k X nL o wf w lv (.long x :: st) pc := by
  obtain ⟨l, D, A, V⟩ := k
  obtain ⟨p, e, R, s, m, args, below, meth, c⟩ := X
  obtain ⟨hx, hb, hml, hown, hts, hK, hr, hlk, hN, hR⟩ := E
  intro H locs ls hP hD hS hl
  exact lv_l2i hx hb hd rfl (nx H locs ls hP hD hS hl)

theorem g_lshl (E : gE k X cc own Ts nL ret R0) {x : Int64} {y : Int32} (hd : decode cc pc = .ok (.lshl, 1)) (nx : G k X nL o wf w lv (.long (x <<< (y.toInt64 &&& 63)) :: st) (pc + 1)) : G k X nL o wf w lv (.int y :: .long x :: st) pc := by
  obtain ⟨l, D, A, V⟩ := k
  obtain ⟨p, e, R, s, m, args, below, meth, c⟩ := X
  obtain ⟨hx, hb, hml, hown, hts, hK, hr, hlk, hN, hR⟩ := E
  intro H locs ls hP hD hS hl
  exact lv_lshl hx hb hd rfl (nx H locs ls hP hD hS hl)

theorem g_lcmp (E : gE k X cc own Ts nL ret R0) {x y : Int64} (hd : decode cc pc = .ok (.lcmp, 1)) (nx : G k X nL o wf w lv (.int (lg_cmp x y) :: st) (pc + 1)) : G k X nL o wf w lv (.long y :: .long x :: st) pc := by
  obtain ⟨l, D, A, V⟩ := k
  obtain ⟨p, e, R, s, m, args, below, meth, c⟩ := X
  obtain ⟨hx, hb, hml, hown, hts, hK, hr, hlk, hN, hR⟩ := E
  intro H locs ls hP hD hS hl
  exact W.lcmp hx hb hd (nx H locs ls hP hD hS hl)

theorem g_dup (E : gE k X cc own Ts nL ret R0) {va : Value} (hd : decode cc pc = .ok (.dup, 1)) (ha : va.category = 1) (nx : G k X nL o wf w lv (va :: va :: st) (pc + 1)) : G k X nL o wf w lv (va :: st) pc := by
  obtain ⟨l, D, A, V⟩ := k
  obtain ⟨p, e, R, s, m, args, below, meth, c⟩ := X
  obtain ⟨hx, hb, hml, hown, hts, hK, hr, hlk, hN, hR⟩ := E
  intro H locs ls hP hD hS hl
  exact lv_dup hx hb hd ha (nx H locs ls hP hD hS hl)

theorem g_pop (E : gE k X cc own Ts nL ret R0) {va : Value} (hd : decode cc pc = .ok (.pop, 1)) (ha : va.category = 1) (nx : G k X nL o wf w lv st (pc + 1)) : G k X nL o wf w lv (va :: st) pc := by
  obtain ⟨l, D, A, V⟩ := k
  obtain ⟨p, e, R, s, m, args, below, meth, c⟩ := X
  obtain ⟨hx, hb, hml, hown, hts, hK, hr, hlk, hN, hR⟩ := E
  intro H locs ls hP hD hS hl
  exact lv_pop hx hb hd ha (nx H locs ls hP hD hS hl)

theorem g_dup_x1 (E : gE k X cc own Ts nL ret R0) {va vb : Value} (hd : decode cc pc = .ok (.dup_x1, 1)) (ha : va.category = 1) (hb2 : vb.category = 1) (nx : G k X nL o wf w lv (va :: vb :: va :: st) (pc + 1)) : G k X nL o wf w lv (va :: vb :: st) pc := by
  obtain ⟨l, D, A, V⟩ := k
  obtain ⟨p, e, R, s, m, args, below, meth, c⟩ := X
  obtain ⟨hx, hb, hml, hown, hts, hK, hr, hlk, hN, hR⟩ := E
  intro H locs ls hP hD hS hl
  exact lv_dup_x1 hx hb hd ha hb2 (nx H locs ls hP hD hS hl)

theorem g_dup2 (E : gE k X cc own Ts nL ret R0) {va vb : Value} (hd : decode cc pc = .ok (.dup2, 1)) (ha : va.category = 1) (hb2 : vb.category = 1) (nx : G k X nL o wf w lv (va :: vb :: va :: vb :: st) (pc + 1)) : G k X nL o wf w lv (va :: vb :: st) pc := by
  obtain ⟨l, D, A, V⟩ := k
  obtain ⟨p, e, R, s, m, args, below, meth, c⟩ := X
  obtain ⟨hx, hb, hml, hown, hts, hK, hr, hlk, hN, hR⟩ := E
  intro H locs ls hP hD hS hl
  exact lv_dup2_11 hx hb hd ha hb2 (nx H locs ls hP hD hS hl)

theorem g_dup2l (E : gE k X cc own Ts nL ret R0) {va : Value} (hd : decode cc pc = .ok (.dup2, 1)) (ha : va.category = 2) (nx : G k X nL o wf w lv (va :: va :: st) (pc + 1)) : G k X nL o wf w lv (va :: st) pc := by
  obtain ⟨l, D, A, V⟩ := k
  obtain ⟨p, e, R, s, m, args, below, meth, c⟩ := X
  obtain ⟨hx, hb, hml, hown, hts, hK, hr, hlk, hN, hR⟩ := E
  intro H locs ls hP hD hS hl
  exact lv_dup2_2 hx hb hd ha (nx H locs ls hP hD hS hl)

theorem g_if_eq (E : gE k X cc own Ts nL ret R0) {x : Int32} {off : Int} {tgt : Nat} (hd : decode cc pc = .ok (.ifCond .eq off, 3)) (ht : (pc : Int) + off = (tgt : Int)) (kt : x = 0 → G k X nL o wf w lv st tgt) (kf : ¬ x = 0 → G k X nL o wf w lv st (pc + 3)) : G k X nL o wf w lv (.int x :: st) pc := by
  obtain ⟨l, D, A, V⟩ := k
  obtain ⟨p, e, R, s, m, args, below, meth, c⟩ := X
  obtain ⟨hx, hb, hml, hown, hts, hK, hr, hlk, hN, hR⟩ := E
  intro H locs ls hP hD hS hl
  exact lv_if_eq hx hb hd ht (fun h => kt h H locs ls hP hD hS hl) (fun h => kf h H locs ls hP hD hS hl)

theorem g_if_ne (E : gE k X cc own Ts nL ret R0) {x : Int32} {off : Int} {tgt : Nat} (hd : decode cc pc = .ok (.ifCond .ne off, 3)) (ht : (pc : Int) + off = (tgt : Int)) (kt : ¬ x = 0 → G k X nL o wf w lv st tgt) (kf : x = 0 → G k X nL o wf w lv st (pc + 3)) : G k X nL o wf w lv (.int x :: st) pc := by
  obtain ⟨l, D, A, V⟩ := k
  obtain ⟨p, e, R, s, m, args, below, meth, c⟩ := X
  obtain ⟨hx, hb, hml, hown, hts, hK, hr, hlk, hN, hR⟩ := E
  intro H locs ls hP hD hS hl
  exact lv_if_ne hx hb hd ht (fun h => kt h H locs ls hP hD hS hl) (fun h => kf h H locs ls hP hD hS hl)

theorem g_if_lt (E : gE k X cc own Ts nL ret R0) {x : Int32} {off : Int} {tgt : Nat} (hd : decode cc pc = .ok (.ifCond .lt off, 3)) (ht : (pc : Int) + off = (tgt : Int)) (kt : x < 0 → G k X nL o wf w lv st tgt) (kf : ¬ x < 0 → G k X nL o wf w lv st (pc + 3)) : G k X nL o wf w lv (.int x :: st) pc := by
  obtain ⟨l, D, A, V⟩ := k
  obtain ⟨p, e, R, s, m, args, below, meth, c⟩ := X
  obtain ⟨hx, hb, hml, hown, hts, hK, hr, hlk, hN, hR⟩ := E
  intro H locs ls hP hD hS hl
  exact lv_if_lt hx hb hd ht (fun h => kt h H locs ls hP hD hS hl) (fun h => kf h H locs ls hP hD hS hl)

theorem g_if_ge (E : gE k X cc own Ts nL ret R0) {x : Int32} {off : Int} {tgt : Nat} (hd : decode cc pc = .ok (.ifCond .ge off, 3)) (ht : (pc : Int) + off = (tgt : Int)) (kt : 0 ≤ x → G k X nL o wf w lv st tgt) (kf : ¬ 0 ≤ x → G k X nL o wf w lv st (pc + 3)) : G k X nL o wf w lv (.int x :: st) pc := by
  obtain ⟨l, D, A, V⟩ := k
  obtain ⟨p, e, R, s, m, args, below, meth, c⟩ := X
  obtain ⟨hx, hb, hml, hown, hts, hK, hr, hlk, hN, hR⟩ := E
  intro H locs ls hP hD hS hl
  exact lv_if_ge hx hb hd ht (fun h => kt h H locs ls hP hD hS hl) (fun h => kf h H locs ls hP hD hS hl)

theorem g_if_gt (E : gE k X cc own Ts nL ret R0) {x : Int32} {off : Int} {tgt : Nat} (hd : decode cc pc = .ok (.ifCond .gt off, 3)) (ht : (pc : Int) + off = (tgt : Int)) (kt : 0 < x → G k X nL o wf w lv st tgt) (kf : ¬ 0 < x → G k X nL o wf w lv st (pc + 3)) : G k X nL o wf w lv (.int x :: st) pc := by
  obtain ⟨l, D, A, V⟩ := k
  obtain ⟨p, e, R, s, m, args, below, meth, c⟩ := X
  obtain ⟨hx, hb, hml, hown, hts, hK, hr, hlk, hN, hR⟩ := E
  intro H locs ls hP hD hS hl
  exact lv_if_gt hx hb hd ht (fun h => kt h H locs ls hP hD hS hl) (fun h => kf h H locs ls hP hD hS hl)

theorem g_if_le (E : gE k X cc own Ts nL ret R0) {x : Int32} {off : Int} {tgt : Nat} (hd : decode cc pc = .ok (.ifCond .le off, 3)) (ht : (pc : Int) + off = (tgt : Int)) (kt : x ≤ 0 → G k X nL o wf w lv st tgt) (kf : ¬ x ≤ 0 → G k X nL o wf w lv st (pc + 3)) : G k X nL o wf w lv (.int x :: st) pc := by
  obtain ⟨l, D, A, V⟩ := k
  obtain ⟨p, e, R, s, m, args, below, meth, c⟩ := X
  obtain ⟨hx, hb, hml, hown, hts, hK, hr, hlk, hN, hR⟩ := E
  intro H locs ls hP hD hS hl
  exact lv_if_le hx hb hd ht (fun h => kt h H locs ls hP hD hS hl) (fun h => kf h H locs ls hP hD hS hl)

theorem g_icmp_eq (E : gE k X cc own Ts nL ret R0) {x y : Int32} {off : Int} {tgt : Nat} (hd : decode cc pc = .ok (.if_icmp .eq off, 3)) (ht : (pc : Int) + off = (tgt : Int)) (kt : x = y → G k X nL o wf w lv st tgt) (kf : ¬ x = y → G k X nL o wf w lv st (pc + 3)) : G k X nL o wf w lv (.int y :: .int x :: st) pc := by
  obtain ⟨l, D, A, V⟩ := k
  obtain ⟨p, e, R, s, m, args, below, meth, c⟩ := X
  obtain ⟨hx, hb, hml, hown, hts, hK, hr, hlk, hN, hR⟩ := E
  intro H locs ls hP hD hS hl
  exact lv_icmp_eq hx hb hd ht (fun h => kt h H locs ls hP hD hS hl) (fun h => kf h H locs ls hP hD hS hl)

theorem g_icmp_ne (E : gE k X cc own Ts nL ret R0) {x y : Int32} {off : Int} {tgt : Nat} (hd : decode cc pc = .ok (.if_icmp .ne off, 3)) (ht : (pc : Int) + off = (tgt : Int)) (kt : ¬ x = y → G k X nL o wf w lv st tgt) (kf : x = y → G k X nL o wf w lv st (pc + 3)) : G k X nL o wf w lv (.int y :: .int x :: st) pc := by
  obtain ⟨l, D, A, V⟩ := k
  obtain ⟨p, e, R, s, m, args, below, meth, c⟩ := X
  obtain ⟨hx, hb, hml, hown, hts, hK, hr, hlk, hN, hR⟩ := E
  intro H locs ls hP hD hS hl
  exact lv_icmp_ne hx hb hd ht (fun h => kt h H locs ls hP hD hS hl) (fun h => kf h H locs ls hP hD hS hl)

theorem g_icmp_lt (E : gE k X cc own Ts nL ret R0) {x y : Int32} {off : Int} {tgt : Nat} (hd : decode cc pc = .ok (.if_icmp .lt off, 3)) (ht : (pc : Int) + off = (tgt : Int)) (kt : x < y → G k X nL o wf w lv st tgt) (kf : ¬ x < y → G k X nL o wf w lv st (pc + 3)) : G k X nL o wf w lv (.int y :: .int x :: st) pc := by
  obtain ⟨l, D, A, V⟩ := k
  obtain ⟨p, e, R, s, m, args, below, meth, c⟩ := X
  obtain ⟨hx, hb, hml, hown, hts, hK, hr, hlk, hN, hR⟩ := E
  intro H locs ls hP hD hS hl
  exact lv_icmp_lt hx hb hd ht (fun h => kt h H locs ls hP hD hS hl) (fun h => kf h H locs ls hP hD hS hl)

theorem g_icmp_ge (E : gE k X cc own Ts nL ret R0) {x y : Int32} {off : Int} {tgt : Nat} (hd : decode cc pc = .ok (.if_icmp .ge off, 3)) (ht : (pc : Int) + off = (tgt : Int)) (kt : y ≤ x → G k X nL o wf w lv st tgt) (kf : ¬ y ≤ x → G k X nL o wf w lv st (pc + 3)) : G k X nL o wf w lv (.int y :: .int x :: st) pc := by
  obtain ⟨l, D, A, V⟩ := k
  obtain ⟨p, e, R, s, m, args, below, meth, c⟩ := X
  obtain ⟨hx, hb, hml, hown, hts, hK, hr, hlk, hN, hR⟩ := E
  intro H locs ls hP hD hS hl
  exact lv_icmp_ge hx hb hd ht (fun h => kt h H locs ls hP hD hS hl) (fun h => kf h H locs ls hP hD hS hl)

theorem g_icmp_gt (E : gE k X cc own Ts nL ret R0) {x y : Int32} {off : Int} {tgt : Nat} (hd : decode cc pc = .ok (.if_icmp .gt off, 3)) (ht : (pc : Int) + off = (tgt : Int)) (kt : y < x → G k X nL o wf w lv st tgt) (kf : ¬ y < x → G k X nL o wf w lv st (pc + 3)) : G k X nL o wf w lv (.int y :: .int x :: st) pc := by
  obtain ⟨l, D, A, V⟩ := k
  obtain ⟨p, e, R, s, m, args, below, meth, c⟩ := X
  obtain ⟨hx, hb, hml, hown, hts, hK, hr, hlk, hN, hR⟩ := E
  intro H locs ls hP hD hS hl
  exact lv_icmp_gt hx hb hd ht (fun h => kt h H locs ls hP hD hS hl) (fun h => kf h H locs ls hP hD hS hl)

theorem g_icmp_le (E : gE k X cc own Ts nL ret R0) {x y : Int32} {off : Int} {tgt : Nat} (hd : decode cc pc = .ok (.if_icmp .le off, 3)) (ht : (pc : Int) + off = (tgt : Int)) (kt : x ≤ y → G k X nL o wf w lv st tgt) (kf : ¬ x ≤ y → G k X nL o wf w lv st (pc + 3)) : G k X nL o wf w lv (.int y :: .int x :: st) pc := by
  obtain ⟨l, D, A, V⟩ := k
  obtain ⟨p, e, R, s, m, args, below, meth, c⟩ := X
  obtain ⟨hx, hb, hml, hown, hts, hK, hr, hlk, hN, hR⟩ := E
  intro H locs ls hP hD hS hl
  exact lv_icmp_le hx hb hd ht (fun h => kt h H locs ls hP hD hS hl) (fun h => kf h H locs ls hP hD hS hl)

theorem g_goto (E : gE k X cc own Ts nL ret R0) {off : Int} {tgt : Nat} (hd : decode cc pc = .ok (.goto off, 3)) (ht : (pc : Int) + off = (tgt : Int)) (nx : G k X nL o wf w lv st tgt) : G k X nL o wf w lv st pc := by
  obtain ⟨l, D, A, V⟩ := k
  obtain ⟨p, e, R, s, m, args, below, meth, c⟩ := X
  obtain ⟨hx, hb, hml, hown, hts, hK, hr, hlk, hN, hR⟩ := E
  intro H locs ls hP hD hS hl
  exact lv_goto hx hb hd ht (nx H locs ls hP hD hS hl)

theorem g_tabIn (E : gE k X cc own Ts nL ret R0) {dflt lo hi : Int} {offs : Array Int} {len : Nat} {x : Int32} {off : Int} {tgt : Nat} (kx : Int32) (hc : x = kx) (hd : decode cc pc = .ok (.tableswitch dflt lo hi offs, len)) (h1 : ¬ kx.toInt < lo) (h2 : ¬ hi < kx.toInt) (ho : offs[(kx.toInt - lo).toNat]? = some off) (ht : (pc : Int) + off = (tgt : Int)) (nx : G k X nL o wf w lv st tgt) : G k X nL o wf w lv (.int x :: st) pc := by
  obtain ⟨l, D, A, V⟩ := k
  obtain ⟨p, e, R, s, m, args, below, meth, c⟩ := X
  obtain ⟨hx, hb, hml, hown, hts, hK, hr, hlk, hN, hR⟩ := E
  intro H locs ls hP hD hS hl
  subst hc
  exact lv_tableIn hx hb hd h1 h2 ho ht (nx H locs ls hP hD hS hl)

theorem g_tabOut (E : gE k X cc own Ts nL ret R0) {dflt lo hi : Int} {offs : Array Int} {len : Nat} {x : Int32} {tgt : Nat} (hd : decode cc pc = .ok (.tableswitch dflt lo hi offs, len)) (h : x.toInt < lo ∨ hi < x.toInt) (ht : (pc : Int) + dflt = (tgt : Int)) (nx : G k X nL o wf w lv st tgt) : G k X nL o wf w lv (.int x :: st) pc := by
  obtain ⟨l, D, A, V⟩ := k
  obtain ⟨p, e, R, s, m, args, below, meth, c⟩ := X
  obtain ⟨hx, hb, hml, hown, hts, hK, hr, hlk, hN, hR⟩ := E
  intro H locs ls hP hD hS hl
  exact lv_tableOut hx hb hd h ht (nx H locs ls hP hD hS hl)

theorem g_look (E : gE k X cc own Ts nL ret R0) {dflt : Int} {ps : Array (Int × Int)} {len : Nat} {x : Int32} {off : Int} {tgt : Nat} (hd : decode cc pc = .ok (.lookupswitch dflt ps, len)) (hp : (ps.toList.zip (ps.toList.drop 1)).all (fun (a, next) => a.1 < next.1) = true) (ho : Op.lookupswitch.offset ps.toList dflt x.toInt = off) (ht : (pc : Int) + off = (tgt : Int)) (nx : G k X nL o wf w lv st tgt) : G k X nL o wf w lv (.int x :: st) pc := by
  obtain ⟨l, D, A, V⟩ := k
  obtain ⟨p, e, R, s, m, args, below, meth, c⟩ := X
  obtain ⟨hx, hb, hml, hown, hts, hK, hr, hlk, hN, hR⟩ := E
  intro H locs ls hP hD hS hl
  exact lv_lookup hx hb hd hp ho ht (nx H locs ls hP hD hS hl)

theorem g_sub (ks : List Nat) {lv' : List (Nat × Value)} (h : lv_pick lv ks = lv') (nx : G k X nL o wf w lv' st pc) : G k X nL o wf w lv st pc := by
  obtain ⟨l, D, A, V⟩ := k
  obtain ⟨p, e, R, s, m, args, below, meth, c⟩ := X
  intro H locs ls hP hD hS hl
  exact nx H locs ls hP hD hS (lv_sub hl ks h)

theorem g_mmax (E : gE k X cc own Ts nL ret R0) {ix : Nat} {x y : Int32} (h1 : Cond.methodLink own ix Lib.Math.max.name ∈ Ts) (h2 : Cond.static Lib.Math.max.name ∈ Ts) (h3 : Cond.initialized "java/lang/Math" ∈ Ts) (h4 : Cond.code Lib.Math.max.name Lib.Math.max.code 2 (some .int) ∈ Ts) (hfr : 1 ≤ R0.frames) (hlo : (st.map fun v => v.category).sum + 13 ≤ R0.locals) (hd : decode cc pc = .ok (.invokestatic ix, 3)) (nx : G k X nL o wf w lv (.int (if x < y then y else x) :: st) (pc + 3)) : G k X nL o wf w lv (.int y :: .int x :: st) pc := by
  obtain ⟨l, D, A, V⟩ := k
  obtain ⟨p, e, R, s, m, args, below, meth, c⟩ := X
  obtain ⟨hx, hb, hml, hown, hts, hK, hr, hlk, hN, hR⟩ := E
  intro H locs ls hP hD hS hl
  subst hR
  exact va_mmax hx hb (hml.trans hl.1.symm) hown (hts _ h1) (hts _ h2) (hts _ h3) (hts _ h4) hfr hlo (Nat.zero_le _) (Nat.zero_le _) hd (nx H locs ls hP hD hS hl)

theorem g_mmin (E : gE k X cc own Ts nL ret R0) {ix : Nat} {x y : Int32} (h1 : Cond.methodLink own ix Lib.Math.min.name ∈ Ts) (h2 : Cond.static Lib.Math.min.name ∈ Ts) (h3 : Cond.initialized "java/lang/Math" ∈ Ts) (h4 : Cond.code Lib.Math.min.name Lib.Math.min.code 2 (some .int) ∈ Ts) (hfr : 1 ≤ R0.frames) (hlo : (st.map fun v => v.category).sum + 13 ≤ R0.locals) (hd : decode cc pc = .ok (.invokestatic ix, 3)) (nx : G k X nL o wf w lv (.int (if y < x then y else x) :: st) (pc + 3)) : G k X nL o wf w lv (.int y :: .int x :: st) pc := by
  obtain ⟨l, D, A, V⟩ := k
  obtain ⟨p, e, R, s, m, args, below, meth, c⟩ := X
  obtain ⟨hx, hb, hml, hown, hts, hK, hr, hlk, hN, hR⟩ := E
  intro H locs ls hP hD hS hl
  subst hR
  exact va_mmin hx hb (hml.trans hl.1.symm) hown (hts _ h1) (hts _ h2) (hts _ h3) (hts _ h4) hfr hlo (Nat.zero_le _) (Nat.zero_le _) hd (nx H locs ls hP hD hS hl)

theorem g_mabsl (E : gE k X cc own Ts nL ret R0) {ix : Nat} {x : Int64} (h1 : Cond.methodLink own ix Lib.MathLoose.abs_long.x ∈ Ts) (h2 : Cond.static Lib.MathLoose.abs_long.x ∈ Ts) (h3 : Cond.initialized "java/lang/Math" ∈ Ts) (h4 : Cond.code Lib.MathLoose.abs_long.x Lib.MathLoose.abs_long.code 2 (some .long) ∈ Ts) (hfr : 1 ≤ R0.frames) (hlo : (st.map fun v => v.category).sum + 13 ≤ R0.locals) (hd : decode cc pc = .ok (.invokestatic ix, 3)) (nx : G k X nL o wf w lv (.long (if 0 < x then x else -x) :: st) (pc + 3)) : G k X nL o wf w lv (.long x :: st) pc := by
  obtain ⟨l, D, A, V⟩ := k
  obtain ⟨p, e, R, s, m, args, below, meth, c⟩ := X
  obtain ⟨hx, hb, hml, hown, hts, hK, hr, hlk, hN, hR⟩ := E
  intro H locs ls hP hD hS hl
  subst hR
  exact va_mabs_long hx hb (hml.trans hl.1.symm) hown (hts _ h1) (hts _ h2) (hts _ h3) (hts _ h4) hfr hlo (Nat.zero_le _) (Nat.zero_le _) hd (nx H locs ls hP hD hS hl)

theorem g_get (E : gE k X cc own Ts nL ret R0) {a ci N ix : Nat} {C : String} {T : u_T} {fs : List Value} (q0 kf : Nat) (v : Value) (hin : ∀ w ∈ u_ws C T N, w ∈ Ts) (he : w[q0]? = some (a, .inr (ci, fs))) (hc : vwCl[ci]? = some (C, T, N)) (hk : kf < N) (hm : Cond.fieldLink own ix (T kf).1 (T kf).2.1 (T kf).2.2.1 ∈ Ts) (hv : fs[kf]? = some v) (hd : decode cc pc = .ok (.getfield ix, 3)) (nx : G k X nL o wf w lv (v :: st) (pc + 3)) : G k X nL o wf w lv (.ref a :: st) pc := by
  obtain ⟨l, D, A, V⟩ := k
  obtain ⟨p, e, R, s, m, args, below, meth, c⟩ := X
  obtain ⟨hx, hb, hml, hown, hts, hK, hr, hlk, hN, hR⟩ := E
  intro H locs ls hP hD hS hl
  exact va_get hx hb hts hin hown hK hP q0 he hc kf hk (hts _ hm) (fun _ h => h) hv hd (nx H locs ls hP hD hS hl)

theorem g_put (E : gE k X cc own Ts nL ret R0) {a ci N ix : Nat} {C : String} {T : u_T} {fs : List Value} {x : Int32} (q0 kf : Nat) (w' : va_W) (hin : ∀ w ∈ u_ws C T N, w ∈ Ts) (ty0 : Nat → FieldType) (hty : ∀ k, k < N → parseFieldDescriptor (T k).2.2.1 = some (ty0 k)) (hnm : ∀ a, a < N → ∀ b, b < N → a ≠ b → (T a).2.1 ≠ (T b).2.1) (he : w[q0]? = some (a, .inr (ci, fs))) (hc : vwCl[ci]? = some (C, T, N)) (hk : kf < N) (hm : Cond.fieldLink own ix (T kf).1 (T kf).2.1 (T kf).2.2.1 ∈ Ts) (hfin : (T kf).2.2.2 = false) (hpd : parseFieldDescriptor (T kf).2.2.1 = some .int) (hlen : kf < fs.length) (hw : w.set q0 (a, .inr (ci, fs.set kf (.int x))) = w') (hd : decode cc pc = .ok (.putfield ix, 3)) (nx : G k X nL o wf w' lv st (pc + 3)) : G k X nL o wf w lv (.int x :: .ref a :: st) pc := by
  obtain ⟨l, D, A, V⟩ := k
  obtain ⟨p, e, R, s, m, args, below, meth, c⟩ := X
  obtain ⟨hx, hb, hml, hown, hts, hK, hr, hlk, hN, hR⟩ := E
  intro H locs ls hP hD hS hl
  exact va_put hx hb hts hin ty0 hty hnm hown hK hP hD hS q0 he hc kf hk (hts _ hm) (fun _ h => h) hfin hpd rfl rfl hlen hd (fun H1 locs1 hP1 hD1 hS1 => nx H1 locs1 ls (hw ▸ hP1) (hw ▸ hD1) hS1 hl)

theorem g_iald (E : gE k X cc own Ts nL ret R0) {a n : Nat} {i : Int32} (q0 : Nat) (f : Nat → Int32) (ha : w[q0]? = some (a, .inl (k.2.2.2.2.1, n, .inl f))) (hi : ib i n = true) (hd : decode cc pc = .ok (.iaload, 1)) (nx : G k X nL o wf w lv (.int (f i.toNatClampNeg) :: st) (pc + 1)) : G k X nL o wf w lv (.int i :: .ref a :: st) pc := by
  obtain ⟨l, D, A, V⟩ := k
  obtain ⟨p, e, R, s, m, args, below, meth, c⟩ := X
  obtain ⟨hx, hb, hml, hown, hts, hK, hr, hlk, hN, hR⟩ := E
  intro H locs ls hP hD hS hl
  exact va_iald hx hb hK hP q0 0 ha rfl (ib_in hi) hd (nx H locs ls hP hD hS hl)

theorem g_lald (E : gE k X cc own Ts nL ret R0) {a n : Nat} {i : Int32} (q0 : Nat) (f : Nat → Int64) (ha : w[q0]? = some (a, .inl (k.2.2.2.2.2, n, .inr (.inl f)))) (hi : ib i n = true) (hd : decode cc pc = .ok (.laload, 1)) (nx : G k X nL o wf w lv (.long (f i.toNatClampNeg) :: st) (pc + 1)) : G k X nL o wf w lv (.int i :: .ref a :: st) pc := by
  obtain ⟨l, D, A, V⟩ := k
  obtain ⟨p, e, R, s, m, args, below, meth, c⟩ := X
  obtain ⟨hx, hb, hml, hown, hts, hK, hr, hlk, hN, hR⟩ := E
  intro H locs ls hP hD hS hl
  exact va_lald hx hb hK hP q0 1 ha rfl (ib_in hi) hd (nx H locs ls hP hD hS hl)

theorem g_iast (E : gE k X cc own Ts nL ret R0) {a n : Nat} {i x : Int32} (q0 : Nat) (w' : va_W) (f : Nat → Int32) (ha : w[q0]? = some (a, .inl (k.2.2.2.2.1, n, .inl f))) (hi : ib i n = true) (hw : w.set q0 (a, .inl (k.2.2.2.2.1, n, .inl (upd f i.toNatClampNeg x))) = w') (hd : decode cc pc = .ok (.iastore, 1)) (nx : G k X nL o wf w' lv st (pc + 1)) : G k X nL o wf w lv (.int x :: .int i :: .ref a :: st) pc := by
  obtain ⟨l, D, A, V⟩ := k
  obtain ⟨p, e, R, s, m, args, below, meth, c⟩ := X
  obtain ⟨hx, hb, hml, hown, hts, hK, hr, hlk, hN, hR⟩ := E
  intro H locs ls hP hD hS hl
  exact va_iast hx hb hK hP hD hS q0 0 ha rfl (ib_in hi) hd (fun H1 locs1 hP1 hD1 hS1 => nx H1 locs1 ls (hw ▸ hP1) (hw ▸ hD1) hS1 hl)

theorem g_last (E : gE k X cc own Ts nL ret R0) {a n : Nat} {i : Int32} {x : Int64} (q0 : Nat) (w' : va_W) (f : Nat → Int64) (ha : w[q0]? = some (a, .inl (k.2.2.2.2.2, n, .inr (.inl f)))) (hi : ib i n = true) (hw : w.set q0 (a, .inl (k.2.2.2.2.2, n, .inr (.inl (vp_updL f i.toNatClampNeg x)))) = w') (hd : decode cc pc = .ok (.lastore, 1)) (nx : G k X nL o wf w' lv st (pc + 1)) : G k X nL o wf w lv (.long x :: .int i :: .ref a :: st) pc := by
  obtain ⟨l, D, A, V⟩ := k
  obtain ⟨p, e, R, s, m, args, below, meth, c⟩ := X
  obtain ⟨hx, hb, hml, hown, hts, hK, hr, hlk, hN, hR⟩ := E
  intro H locs ls hP hD hS hl
  exact va_last hx hb hK hP hD hS q0 1 ha rfl (ib_in hi) hd (fun H1 locs1 hP1 hD1 hS1 => nx H1 locs1 ls (hw ▸ hP1) (hw ▸ hD1) hS1 hl)

theorem g_alenI (E : gE k X cc own Ts nL ret R0) {a n : Nat} {v : Int32} (q0 : Nat) (f : Nat → Int32) (ha : w[q0]? = some (a, .inl (k.2.2.2.2.1, n, .inl f))) (hv : Int32.ofNat n = v) (hd : decode cc pc = .ok (.arraylength, 1)) (nx : G k X nL o wf w lv (.int v :: st) (pc + 1)) : G k X nL o wf w lv (.ref a :: st) pc := by
  obtain ⟨l, D, A, V⟩ := k
  obtain ⟨p, e, R, s, m, args, below, meth, c⟩ := X
  obtain ⟨hx, hb, hml, hown, hts, hK, hr, hlk, hN, hR⟩ := E
  intro H locs ls hP hD hS hl
  exact va_alen hx hb hK hP q0 0 ha rfl hv hd (nx H locs ls hP hD hS hl)

theorem g_alenL (E : gE k X cc own Ts nL ret R0) {a n : Nat} {v : Int32} (q0 : Nat) (f : Nat → Int64) (ha : w[q0]? = some (a, .inl (k.2.2.2.2.2, n, .inr (.inl f)))) (hv : Int32.ofNat n = v) (hd : decode cc pc = .ok (.arraylength, 1)) (nx : G k X nL o wf w lv (.int v :: st) (pc + 1)) : G k X nL o wf w lv (.ref a :: st) pc := by
  obtain ⟨l, D, A, V⟩ := k
  obtain ⟨p, e, R, s, m, args, below, meth, c⟩ := X
  obtain ⟨hx, hb, hml, hown, hts, hK, hr, hlk, hN, hR⟩ := E
  intro H locs ls hP hD hS hl
  exact va_alen hx hb hK hP q0 1 ha rfl hv hd (nx H locs ls hP hD hS hl)

theorem g_iret (E : gE k X cc own Ts nL (some .int) R0) {v : Int32} (hd : decode cc pc = .ok (.ireturn, 1)) : G k X nL (some (.int v)) w w lv [.int v] pc := by
  obtain ⟨l, D, A, V⟩ := k
  obtain ⟨p, e, R, s, m, args, below, meth, c⟩ := X
  obtain ⟨hx, hb, hml, hown, hts, hK, hr, hlk, hN, hR⟩ := E
  intro H locs ls hP hD hS hl
  exact W.iret hx hb hr (fun t ht hW => ⟨rfl, by rw [ht]; exact hP, hD, hS.F ht⟩) hS.2.2 hd hlk

theorem g_zret (E : gE k X cc own Ts nL (some .boolean) R0) {v : Int32} (hv : v = 0 ∨ v = 1) (hd : decode cc pc = .ok (.ireturn, 1)) : G k X nL (some (.int v)) w w lv [.int v] pc := by
  obtain ⟨l, D, A, V⟩ := k
  obtain ⟨p, e, R, s, m, args, below, meth, c⟩ := X
  obtain ⟨hx, hb, hml, hown, hts, hK, hr, hlk, hN, hR⟩ := E
  intro H locs ls hP hD hS hl
  exact W.zret hx hb hr (by rcases hv with rfl | rfl <;> rfl) (fun t ht hW => ⟨rfl, by rw [ht]; exact hP, hD, hS.F ht⟩) hS.2.2 hd hlk

theorem g_lret (E : gE k X cc own Ts nL (some .long) R0) {v : Int64} (hd : decode cc pc = .ok (.lreturn, 1)) : G k X nL (some (.long v)) w w lv [.long v] pc := by
  obtain ⟨l, D, A, V⟩ := k
  obtain ⟨p, e, R, s, m, args, below, meth, c⟩ := X
  obtain ⟨hx, hb, hml, hown, hts, hK, hr, hlk, hN, hR⟩ := E
  intro H locs ls hP hD hS hl
  exact W.lret hx hb hr (fun t ht hW => ⟨rfl, by rw [ht]; exact hP, hD, hS.F ht⟩) hS.2.2 hd hlk

theorem g_vret (E : gE k X cc own Ts nL (none) R0)  (hd : decode cc pc = .ok (.return_, 1)) : G k X nL (none) w w lv [] pc := by
  obtain ⟨l, D, A, V⟩ := k
  obtain ⟨p, e, R, s, m, args, below, meth, c⟩ := X
  obtain ⟨hx, hb, hml, hown, hts, hK, hr, hlk, hN, hR⟩ := E
  intro H locs ls hP hD hS hl
  exact W.vret hx hb hr (fun t ht hW => ⟨rfl, by rw [ht]; exact hP, hD, hS.F ht⟩) hS.2.2 hd hlk

theorem g_aret {C : String} (E : gE k X cc own Ts nL (some (.object C)) R0) {v : Nat} (hd : decode cc pc = .ok (.areturn, 1)) : G k X nL (some (.ref v)) w w lv [.ref v] pc := by
  obtain ⟨l, D, A, V⟩ := k
  obtain ⟨p, e, R, s, m, args, below, meth, c⟩ := X
  obtain ⟨hx, hb, hml, hown, hts, hK, hr, hlk, hN, hR⟩ := E
  intro H locs ls hP hD hS hl
  exact W.aret hx hb hr (Or.inl ⟨_, rfl⟩) (Or.inr ⟨_, rfl⟩) (fun t ht hW => ⟨rfl, by rw [ht]; exact hP, hD, hS.F ht⟩) hS.2.2 hd hlk

theorem g_run {p : Program} {l : Launch} {e : Env} {R : Room} {s : State} {m : MethodId} {args : Array Value} {below : List Frame} {meth : Method} {c : Code} {D : va_G} {A : Nat → Prop} {V : gV} {o' : Option Value} {w' : va_W} {H : Heap} {locs : List Loc} {ls : Array Slot} {st0 rest : List Value} {a : Array Value}
    (hr : va_Run p l e R s m args below meth c H locs 0 0 0 0 (F0 m pc ls st0) rest (gQ D A o' w' a) A) (hS : va_S A s.heap H locs) (hl : lv_has ls nL lv)
    (nx : G (l, D, A, V) (p, e, R, s, m, args, below, meth, c) nL o wf w' lv (o'.toList ++ rest) (pc + 3)) : W p l e R s m args below meth c H locs 0 0 (MQ below (gQ D A o wf) args s 0 0 A) (F0 m pc ls st0) := by
  intro T hT X
  obtain ⟨v, st₀, t, T', L, h0, X', hL, e1, e2, ⟨hv, hP', hD', hz, hk⟩, st⟩ := hr T hT X
  cases hv
  rw [h0] at hz hk
  obtain ⟨t2, a1, b1⟩ := nx T'.heap (locs ++ L) ls (by rw [e1]; exact hP') hD'
    ⟨Nat.le_trans hS.1 (by rw [e1]; exact hz), fun q h1 h2 => by rw [e1, hk q (Nat.lt_of_lt_of_le h1 hS.1) h2]; exact hS.2.1 q h1 h2, fun q hq => by
      rcases List.mem_append.mp hq with h | h
      · exact hS.2.2 q h
      · exact hL q h⟩ hl T' rfl X'
  exact ⟨t2, st t2 a1, b1⟩

theorem g_callV (E : gE k X cc own Ts nL ret R0) {y : MethodName} {ws ws' : List Cond} {rm : Room} {maxL ix n : Nat} {bytes : ByteArray} {rt : Option FieldType} {o' : Option Value} {w' : va_W} {As rest : List Value} {C : String} {T : u_T} {N ci b : Nat} {fs : List Value} (q0 : Nat) (hM : MC k y ws rm (.ref b :: As) w o' w') (hG : GoodIn Ts (wsV own ix C y ws)) (hw : ws = Cond.code y bytes maxL rt :: ws') (hrc : rm.cells = 0) (hrs : rm.slots = 0) (hd0 : y.cls = C ∧ y.cls ≠ "java/lang/invoke/MethodHandle" ∧ y.cls ≠ "java/lang/invoke/VarHandle" ∧ (parseMethodDescriptor y.desc).map (fun d => d.parameters.length) = some n) (hRR : rm.frames + 1 ≤ R0.frames ∧ 8 + (maxL + 11) + rm.locals ≤ R0.locals) (hn : As.length = n) (hst : st = As.reverse ++ .ref b :: rest) (hW : (rest.map fun v => v.category).sum ≤ 8) (hc : vwCl[ci]? = some (C, T, N)) (he : w[q0]? = some (b, .inr (ci, fs))) (hd : decode cc pc = .ok (.invokevirtual ix, 3)) (nx : G k X nL o wf w' lv (o'.toList ++ rest) (pc + 3)) : G k X nL o wf w lv st pc := by
  obtain ⟨l, D, A, V⟩ := k
  obtain ⟨p, e, R, s, m, args, below, meth, c⟩ := X
  obtain ⟨hx, hb, hml, hown, hts, hK, hr, hlk, hN, hR⟩ := E
  intro H locs ls hP hD hS hl
  subst hst
  subst hR
  exact g_run (va_runV (As := As) (rest := rest) ⟨hx, hb, hml, hown, hts⟩ hM (cwV n hts hG hw hrc hrs hd0 hRR) ⟨gBlind _ _ _, va_recv hK hP hc he, fun U hU hW => ⟨rfl, by rw [hU]; exact hP, hD, va_K.moved hW.alike hK, hN.warm hW⟩⟩ rfl hn hl.1 rfl (lv_room hW) hd ⟨Nat.zero_le _, Nat.zero_le _⟩) hS hl nx

theorem g_callS (E : gE k X cc own Ts nL ret R0) {y : MethodName} {ws ws' : List Cond} {rm : Room} {maxL ix n : Nat} {bytes : ByteArray} {rt : Option FieldType} {o' : Option Value} {w' : va_W} {As rest : List Value} (hM : MC k y ws rm As w o' w') (hG : GoodIn Ts (va_wsS own ix y ws)) (hw : ws = Cond.code y bytes maxL rt :: ws') (hrc : rm.cells = 0) (hrs : rm.slots = 0) (hd0 : y.cls ≠ "java/lang/invoke/MethodHandle" ∧ y.cls ≠ "java/lang/invoke/VarHandle" ∧ (parseMethodDescriptor y.desc).map (fun d => d.parameters.length) = some n) (hRR : rm.frames + 1 ≤ R0.frames ∧ 8 + (maxL + 11) + rm.locals ≤ R0.locals) (hn : As.length = n) (hst : st = As.reverse ++ rest) (hW : (rest.map fun v => v.category).sum ≤ 8) (hd : decode cc pc = .ok (.invokestatic ix, 3)) (nx : G k X nL o wf w' lv (o'.toList ++ rest) (pc + 3)) : G k X nL o wf w lv st pc := by
  obtain ⟨l, D, A, V⟩ := k
  obtain ⟨p, e, R, s, m, args, below, meth, c⟩ := X
  obtain ⟨hx, hb, hml, hown, hts, hK, hr, hlk, hN, hR⟩ := E
  intro H locs ls hP hD hS hl
  subst hst
  subst hR
  exact g_run (va_runS (As := As) (rest := rest) ⟨hx, hb, hml, hown, hts⟩ hM (va_cwS n hts hG hw hrc hrs hd0 hRR) ⟨gBlind _ _ _, fun U hU hW => ⟨rfl, by rw [hU]; exact hP, hD, va_K.moved hW.alike hK, hN.warm hW⟩⟩ rfl hn hl.1 rfl (lv_room hW) hd ⟨Nat.zero_le _, Nat.zero_le _⟩) hS hl nx

theorem g_callSN (E : gE k X cc own Ts nL ret R0) {y : MethodName} {ws ws' : List Cond} {rm : Room} {maxL ix n : Nat} {bytes : ByteArray} {rt : Option FieldType} {o' : Option Value} {w' : va_W} {As rest : List Value} (hM : MC k y ws rm As w o' w') (hG : GoodIn Ts ws) (hw : ws = Cond.code y bytes maxL rt :: ws') (hrc : rm.cells = 0) (hrs : rm.slots = 0) (hq : (own, ix, y) ∈ gNest) (hini : Cond.initialized y.cls ∈ Ts) (hsta : Cond.static y ∈ Ts) (hd0 : y.cls ≠ "java/lang/invoke/MethodHandle" ∧ y.cls ≠ "java/lang/invoke/VarHandle" ∧ (parseMethodDescriptor y.desc).map (fun d => d.parameters.length) = some n) (hRR : rm.frames + 1 ≤ R0.frames ∧ 8 + (maxL + 11) + rm.locals ≤ R0.locals) (hn : As.length = n) (hst : st = As.reverse ++ rest) (hW : (rest.map fun v => v.category).sum ≤ 8) (hd : decode cc pc = .ok (.invokestatic ix, 3)) (nx : G k X nL o wf w' lv (o'.toList ++ rest) (pc + 3)) : G k X nL o wf w lv st pc := by
  obtain ⟨l, D, A, V⟩ := k
  obtain ⟨p, e, R, s, m, args, below, meth, c⟩ := X
  obtain ⟨hx, hb, hml, hown, hts, hK, hr, hlk, hN, hR⟩ := E
  intro H locs ls hP hD hS hl
  subst hst
  subst hR
  exact g_run (va_runSN (host := RX8) (As := As) (rest := rest) ⟨hx, hb, hml, hown, hts⟩ hM ⟨va_cnB n hts hG hw hrc hrs (hN _ hq) (hts _ hini) hd0 hRR, hts _ hsta, trivial⟩ ⟨gBlind _ _ _, fun U hU hW => ⟨rfl, by rw [hU]; exact hP, hD, va_K.moved hW.alike hK, hN.warm hW⟩⟩ rfl hn hl.1 rfl (lv_room hW) hd ⟨Nat.zero_le _, Nat.zero_le _⟩) hS hl nx

end GR
theorem MC_of {k : gK} {y : MethodName} {ws ws' : List Cond} {rm : Room} {av : List Value} {w w' : va_W} {o : Option Value} {cc : ByteArray} {maxL : Nat} {ret : Option FieldType} {own : String} {lvs : List (Nat × Value)} (hy : plainName y.cls = true) (hw : ws = Cond.code y cc maxL ret :: ws') (hown : y.cls = own) (hlen : (lg_sl av).length ≤ maxL) (hlv : lv_args 0 av = lvs) (body : ∀ X : gX, gE k X cc own ws maxL ret rm → G k X maxL o w' w lvs [] 0) : MC k y ws rm av w o w' := by
  obtain ⟨l, D, A, V⟩ := k
  refine Met.ofW (cc := cc) (maxL := maxL) (ret := ret) hy hw ?_
  intro p e s m args below meth c s₁ B hml hv
  obtain ⟨rfl, hP, hD, hK, hN⟩ := hv
  have hl := lv_entry av (n := maxL) hlen
  rw [lg_entry_eq]
  subst hlv
  subst hown
  exact body (p, e, (headSpec ws rm).room, s, m, av.toArray, below, meth, c) ⟨B.exec, B.bytes, hml, findClass_of_methodNamed B.named, atoms_spec (ws := ws) B.pre, hK, B.returns, B.notSynchronized, hN, rfl⟩ s.heap [] _ hP hD va_S.rf hl
